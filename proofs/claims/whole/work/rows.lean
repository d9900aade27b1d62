section
-- ===== PART A: goes FIRST, ahead of the names: the tables' words, and 'selects' of the private methods out of them =====
/-- a private method of a class that the tables say can be made, by its rows of tables_1 -/
def lw_okq (q : MethodName × Nat) : Prop := (q.1.cls ≠ "java/lang/invoke/MethodHandle" ∧ q.1.cls ≠ "java/lang/invoke/VarHandle") ∧ Cond.instantiable q.1.cls q.2 ∈ tables_1 ∧ Cond.privateMethod q.1 ∈ tables_1 ∧ Cond.instanceMethod q.1 ∈ tables_1
theorem lw_p0 : lw_okq (⟨"Pegrow", "rowOf", "(I)LPegrow$Row;"⟩, 7) := ⟨⟨by decide +kernel, by decide +kernel⟩, List.mem_of_getElem? (i := 7) (by decide +kernel), List.mem_of_getElem? (i := 94) (by decide +kernel), List.mem_of_getElem? (i := 95) (by decide +kernel)⟩
theorem lw_p1 : lw_okq (⟨"Pegrow", "newThing", "(I)I"⟩, 7) := ⟨⟨by decide +kernel, by decide +kernel⟩, List.mem_of_getElem? (i := 7) (by decide +kernel), List.mem_of_getElem? (i := 105) (by decide +kernel), List.mem_of_getElem? (i := 106) (by decide +kernel)⟩
theorem lw_p2 : lw_okq (⟨"Pegrow$Row", "openAt", "(II)V"⟩, 3) := ⟨⟨by decide +kernel, by decide +kernel⟩, List.mem_of_getElem? (i := 18) (by decide +kernel), List.mem_of_getElem? (i := 113) (by decide +kernel), List.mem_of_getElem? (i := 114) (by decide +kernel)⟩
theorem lw_p3 : lw_okq (⟨"Pegrow", "noEnd", "(I)I"⟩, 7) := ⟨⟨by decide +kernel, by decide +kernel⟩, List.mem_of_getElem? (i := 7) (by decide +kernel), List.mem_of_getElem? (i := 124) (by decide +kernel), List.mem_of_getElem? (i := 125) (by decide +kernel)⟩
theorem lw_p4 : lw_okq (⟨"Pegrow", "refused", "(I)I"⟩, 7) := ⟨⟨by decide +kernel, by decide +kernel⟩, List.mem_of_getElem? (i := 7) (by decide +kernel), List.mem_of_getElem? (i := 128) (by decide +kernel), List.mem_of_getElem? (i := 129) (by decide +kernel)⟩
theorem lw_p5 : lw_okq (⟨"Pegrow", "pegOf", "(I)LPegrow$Peg;"⟩, 7) := ⟨⟨by decide +kernel, by decide +kernel⟩, List.mem_of_getElem? (i := 7) (by decide +kernel), List.mem_of_getElem? (i := 265) (by decide +kernel), List.mem_of_getElem? (i := 266) (by decide +kernel)⟩
theorem lw_p6 : lw_okq (⟨"Pegrow", "goOver", "(IZ)I"⟩, 7) := ⟨⟨by decide +kernel, by decide +kernel⟩, List.mem_of_getElem? (i := 7) (by decide +kernel), List.mem_of_getElem? (i := 277) (by decide +kernel), List.mem_of_getElem? (i := 278) (by decide +kernel)⟩
theorem lw_p7 : lw_okq (⟨"Pegrow", "handFault", "(LPegrow$Peg;LPegrow$Row;)I"⟩, 7) := ⟨⟨by decide +kernel, by decide +kernel⟩, List.mem_of_getElem? (i := 7) (by decide +kernel), List.mem_of_getElem? (i := 297) (by decide +kernel), List.mem_of_getElem? (i := 298) (by decide +kernel)⟩
theorem lw_p8 : lw_okq (⟨"Pegrow", "standingPegs", "()I"⟩, 7) := ⟨⟨by decide +kernel, by decide +kernel⟩, List.mem_of_getElem? (i := 7) (by decide +kernel), List.mem_of_getElem? (i := 321) (by decide +kernel), List.mem_of_getElem? (i := 322) (by decide +kernel)⟩
theorem lw_p9 : lw_okq (⟨"Pegrow", "oldPegs", "()I"⟩, 7) := ⟨⟨by decide +kernel, by decide +kernel⟩, List.mem_of_getElem? (i := 7) (by decide +kernel), List.mem_of_getElem? (i := 325) (by decide +kernel), List.mem_of_getElem? (i := 326) (by decide +kernel)⟩
theorem lw_p10 : lw_okq (⟨"PegrowModel", "make", "(I)I"⟩, 11) := ⟨⟨by decide +kernel, by decide +kernel⟩, List.mem_of_getElem? (i := 329) (by decide +kernel), List.mem_of_getElem? (i := 382) (by decide +kernel), List.mem_of_getElem? (i := 383) (by decide +kernel)⟩
theorem lw_p11 : lw_okq (⟨"PegrowModel", "open", "(III)V"⟩, 11) := ⟨⟨by decide +kernel, by decide +kernel⟩, List.mem_of_getElem? (i := 329) (by decide +kernel), List.mem_of_getElem? (i := 386) (by decide +kernel), List.mem_of_getElem? (i := 387) (by decide +kernel)⟩
theorem lw_p12 : lw_okq (⟨"PegrowModel", "thing", "(II)I"⟩, 11) := ⟨⟨by decide +kernel, by decide +kernel⟩, List.mem_of_getElem? (i := 329) (by decide +kernel), List.mem_of_getElem? (i := 390) (by decide +kernel), List.mem_of_getElem? (i := 391) (by decide +kernel)⟩
theorem lw_p13 : lw_okq (⟨"PegrowModel", "age", "(II)V"⟩, 11) := ⟨⟨by decide +kernel, by decide +kernel⟩, List.mem_of_getElem? (i := 329) (by decide +kernel), List.mem_of_getElem? (i := 394) (by decide +kernel), List.mem_of_getElem? (i := 395) (by decide +kernel)⟩
theorem lw_p14 : lw_okq (⟨"PegrowModel", "refuse", "(II)I"⟩, 11) := ⟨⟨by decide +kernel, by decide +kernel⟩, List.mem_of_getElem? (i := 329) (by decide +kernel), List.mem_of_getElem? (i := 402) (by decide +kernel), List.mem_of_getElem? (i := 403) (by decide +kernel)⟩
theorem lw_p15 : lw_okq (⟨"PegrowModel", "close", "(II)I"⟩, 11) := ⟨⟨by decide +kernel, by decide +kernel⟩, List.mem_of_getElem? (i := 329) (by decide +kernel), List.mem_of_getElem? (i := 410) (by decide +kernel), List.mem_of_getElem? (i := 411) (by decide +kernel)⟩
def lw_privs_1 : List (MethodName × Nat) := [(⟨"Pegrow", "rowOf", "(I)LPegrow$Row;"⟩, 7), (⟨"Pegrow", "newThing", "(I)I"⟩, 7), (⟨"Pegrow$Row", "openAt", "(II)V"⟩, 3), (⟨"Pegrow", "noEnd", "(I)I"⟩, 7), (⟨"Pegrow", "refused", "(I)I"⟩, 7), (⟨"Pegrow", "pegOf", "(I)LPegrow$Peg;"⟩, 7), (⟨"Pegrow", "goOver", "(IZ)I"⟩, 7), (⟨"Pegrow", "handFault", "(LPegrow$Peg;LPegrow$Row;)I"⟩, 7), (⟨"Pegrow", "standingPegs", "()I"⟩, 7), (⟨"Pegrow", "oldPegs", "()I"⟩, 7), (⟨"PegrowModel", "make", "(I)I"⟩, 11), (⟨"PegrowModel", "open", "(III)V"⟩, 11), (⟨"PegrowModel", "thing", "(II)I"⟩, 11), (⟨"PegrowModel", "age", "(II)V"⟩, 11), (⟨"PegrowModel", "refuse", "(II)I"⟩, 11), (⟨"PegrowModel", "close", "(II)I"⟩, 11)]
theorem lw_r1 : ∀ q ∈ lw_privs_1, lw_okq q := List.forall_mem_cons.mpr ⟨lw_p0, List.forall_mem_cons.mpr ⟨lw_p1, List.forall_mem_cons.mpr ⟨lw_p2, List.forall_mem_cons.mpr ⟨lw_p3, List.forall_mem_cons.mpr ⟨lw_p4, List.forall_mem_cons.mpr ⟨lw_p5, List.forall_mem_cons.mpr ⟨lw_p6, List.forall_mem_cons.mpr ⟨lw_p7, List.forall_mem_cons.mpr ⟨lw_p8, List.forall_mem_cons.mpr ⟨lw_p9, List.forall_mem_cons.mpr ⟨lw_p10, List.forall_mem_cons.mpr ⟨lw_p11, List.forall_mem_cons.mpr ⟨lw_p12, List.forall_mem_cons.mpr ⟨lw_p13, List.forall_mem_cons.mpr ⟨lw_p14, List.forall_mem_cons.mpr ⟨lw_p15, fun _ h => absurd h List.not_mem_nil⟩⟩⟩⟩⟩⟩⟩⟩⟩⟩⟩⟩⟩⟩⟩⟩
theorem lw_p16 : lw_okq (⟨"PegrowModel", "placeBy", "(IIZ)I"⟩, 11) := ⟨⟨by decide +kernel, by decide +kernel⟩, List.mem_of_getElem? (i := 329) (by decide +kernel), List.mem_of_getElem? (i := 434) (by decide +kernel), List.mem_of_getElem? (i := 435) (by decide +kernel)⟩
theorem lw_p17 : lw_okq (⟨"PegrowModel", "leave", "(I)V"⟩, 11) := ⟨⟨by decide +kernel, by decide +kernel⟩, List.mem_of_getElem? (i := 329) (by decide +kernel), List.mem_of_getElem? (i := 461) (by decide +kernel), List.mem_of_getElem? (i := 462) (by decide +kernel)⟩
theorem lw_p18 : lw_okq (⟨"PegrowModel", "bars", "(I)I"⟩, 11) := ⟨⟨by decide +kernel, by decide +kernel⟩, List.mem_of_getElem? (i := 329) (by decide +kernel), List.mem_of_getElem? (i := 497) (by decide +kernel), List.mem_of_getElem? (i := 498) (by decide +kernel)⟩
theorem lw_p19 : lw_okq (⟨"PegrowModel", "goes", "(III)I"⟩, 11) := ⟨⟨by decide +kernel, by decide +kernel⟩, List.mem_of_getElem? (i := 329) (by decide +kernel), List.mem_of_getElem? (i := 501) (by decide +kernel), List.mem_of_getElem? (i := 502) (by decide +kernel)⟩
theorem lw_p20 : lw_okq (⟨"PegrowModel", "barsHand", "(I)I"⟩, 11) := ⟨⟨by decide +kernel, by decide +kernel⟩, List.mem_of_getElem? (i := 329) (by decide +kernel), List.mem_of_getElem? (i := 517) (by decide +kernel), List.mem_of_getElem? (i := 518) (by decide +kernel)⟩
theorem lw_p21 : lw_okq (⟨"PegrowModel", "standing", "()I"⟩, 11) := ⟨⟨by decide +kernel, by decide +kernel⟩, List.mem_of_getElem? (i := 329) (by decide +kernel), List.mem_of_getElem? (i := 537) (by decide +kernel), List.mem_of_getElem? (i := 538) (by decide +kernel)⟩
def lw_privs_2 : List (MethodName × Nat) := [(⟨"PegrowModel", "placeBy", "(IIZ)I"⟩, 11), (⟨"PegrowModel", "leave", "(I)V"⟩, 11), (⟨"PegrowModel", "bars", "(I)I"⟩, 11), (⟨"PegrowModel", "goes", "(III)I"⟩, 11), (⟨"PegrowModel", "barsHand", "(I)I"⟩, 11), (⟨"PegrowModel", "standing", "()I"⟩, 11)]
theorem lw_r2 : ∀ q ∈ lw_privs_2, lw_okq q := List.forall_mem_cons.mpr ⟨lw_p16, List.forall_mem_cons.mpr ⟨lw_p17, List.forall_mem_cons.mpr ⟨lw_p18, List.forall_mem_cons.mpr ⟨lw_p19, List.forall_mem_cons.mpr ⟨lw_p20, List.forall_mem_cons.mpr ⟨lw_p21, fun _ h => absurd h List.not_mem_nil⟩⟩⟩⟩⟩⟩
def lw_privs : List (MethodName × Nat) := lw_privs_1 ++ (lw_privs_2)
def lw_tbl : List Cond := k2_sels lw_privs ++ tables_1
theorem lw_privs_ok : ∀ q ∈ lw_privs, lw_okq q := by
  show ∀ q ∈ lw_privs_1 ++ (lw_privs_2), lw_okq q
  exact List.forall_mem_append.mpr ⟨lw_r1, lw_r2⟩
end
section
/-! ===== BEGIN words of one list among another's, by their places ===== -/
theorem goodIn_r {big : List Cond} (ws : List Cond) (ps : List Nat) (hp : ws = ps.filterMap (fun i => big[i]?)) (h : ws.all goodWord = true) : GoodIn big ws := by
  intro w hw
  have h1 := List.all_eq_true.mp h w hw
  rw [hp] at hw
  obtain ⟨i, -, hi⟩ := List.mem_filterMap.mp hw
  have hm : w ∈ big := by first | exact List.mem_of_getElem? hi | exact List.getElem?_mem hi
  exact ⟨hm, good_of_word h1⟩
theorem goodIn_app {big a b : List Cond} (ha : GoodIn big a) (hb : GoodIn big b) : GoodIn big (a ++ b) := fun w h => (List.mem_append.mp h).elim (ha w) (hb w)
theorem goodIn_ca {big a b : List Cond} {c : Cond} (ha : GoodIn big (c :: a)) (hb : GoodIn big b) : GoodIn big (c :: (a ++ b)) := fun w h => (List.mem_cons.mp h).elim (fun e => ha w (List.mem_cons.mpr (Or.inl e))) (fun h => (List.mem_append.mp h).elim (fun h => ha w (List.mem_cons.mpr (Or.inr h))) (hb w))
theorem goodIn_sub {big ws : List Cond} (hm : ∀ w ∈ ws, w ∈ big) (h : ws.all goodWord = true) : GoodIn big ws := fun w hw => ⟨hm w hw, good_of_word (List.all_eq_true.mp h w hw)⟩
/-! ===== END ===== -/

/-! ===== BEGIN printed: names, fields, word lists, decode rows ===== -/
def RX0 : String := "Pegrow$Peg"
def TX0 : u_T := fun k => match k with
  | 0 => ("Pegrow$Peg", "row", "LPegrow$Row;", false)
  | 1 => ("Pegrow$Peg", "ahead", "I", false)
  | 2 => ("Pegrow$Peg", "seen", "I", false)
  | 3 => ("Pegrow$Peg", "hand", "I", false)
  | 4 => ("Pegrow$Peg", "held", "I", false)
  | _ => ("Pegrow$Peg", "missed", "Z", false)
def tyX0 : Nat → FieldType := fun k => match k with
  | 0 => .object "Pegrow$Row"
  | 1 => .int
  | 2 => .int
  | 3 => .int
  | 4 => .int
  | _ => .boolean
abbrev wsX00 : List Cond := u_ws RX0 TX0 6
theorem nmX0 : ∀ a, a < 6 → ∀ b, b < 6 → a ≠ b → (TX0 a).2.1 ≠ (TX0 b).2.1 := by decide +kernel
theorem tyX0_ok : ∀ k, k < 6 → parseFieldDescriptor (TX0 k).2.2.1 = some (tyX0 k) := by decide +kernel
abbrev cX0_init : ByteArray := prog_2_method_1_code
def yX0_init : MethodName := ⟨RX0, "<init>", "()V"⟩
abbrev cX0_standIn : ByteArray := prog_2_method_2_code
def yX0_standIn : MethodName := ⟨RX0, "standIn", "(LPegrow$Row;I)V"⟩
abbrev cX0_leave : ByteArray := prog_2_method_3_code
def yX0_leave : MethodName := ⟨RX0, "leave", "(LPegrow$Row;)V"⟩
abbrev cX0_hold : ByteArray := prog_2_method_4_code
def yX0_hold : MethodName := ⟨RX0, "hold", "(II)I"⟩
abbrev cX0_isOld : ByteArray := prog_2_method_5_code
def yX0_isOld : MethodName := ⟨RX0, "isOld", "()Z"⟩
def RX1 : String := "Pegrow$Row"
def TX1 : u_T := fun k => match k with
  | 0 => ("Pegrow$Row", "things", "[I", true)
  | 1 => ("Pegrow$Row", "length", "I", false)
  | _ => ("Pegrow$Row", "changes", "I", false)
def tyX1 : Nat → FieldType := fun k => match k with
  | 0 => .array .int
  | 1 => .int
  | _ => .int
abbrev wsX10 : List Cond := u_ws RX1 TX1 3
theorem nmX1 : ∀ a, a < 3 → ∀ b, b < 3 → a ≠ b → (TX1 a).2.1 ≠ (TX1 b).2.1 := by decide +kernel
theorem tyX1_ok : ∀ k, k < 3 → parseFieldDescriptor (TX1 k).2.2.1 = some (tyX1 k) := by decide +kernel
abbrev cX1_init : ByteArray := prog_3_method_1_code
def yX1_init : MethodName := ⟨RX1, "<init>", "()V"⟩
abbrev cX1_hasThingAt : ByteArray := prog_3_method_2_code
def yX1_hasThingAt : MethodName := ⟨RX1, "hasThingAt", "(I)Z"⟩
abbrev cX1_canPutAt : ByteArray := prog_3_method_3_code
def yX1_canPutAt : MethodName := ⟨RX1, "canPutAt", "(I)Z"⟩
abbrev cX1_hasRoomFor : ByteArray := prog_3_method_4_code
def yX1_hasRoomFor : MethodName := ⟨RX1, "hasRoomFor", "(I)Z"⟩
abbrev cX1_thingAt : ByteArray := prog_3_method_5_code
def yX1_thingAt : MethodName := ⟨RX1, "thingAt", "(I)I"⟩
abbrev cX1_layAt : ByteArray := prog_3_method_6_code
def yX1_layAt : MethodName := ⟨RX1, "layAt", "(II)I"⟩
abbrev cX1_putAt : ByteArray := prog_3_method_7_code
def yX1_putAt : MethodName := ⟨RX1, "putAt", "(II)V"⟩
abbrev cX1_putAllAt : ByteArray := prog_3_method_8_code
def yX1_putAllAt : MethodName := ⟨RX1, "putAllAt", "(ILPegrow$Row;)V"⟩
abbrev cX1_takeAt : ByteArray := prog_3_method_9_code
def yX1_takeAt : MethodName := ⟨RX1, "takeAt", "(I)I"⟩
abbrev cX1_placeOf : ByteArray := prog_3_method_10_code
def yX1_placeOf : MethodName := ⟨RX1, "placeOf", "(IZ)I"⟩
abbrev cX1_keepFirst : ByteArray := prog_3_method_11_code
def yX1_keepFirst : MethodName := ⟨RX1, "keepFirst", "(I)V"⟩
abbrev cX1_becomeLike : ByteArray := prog_3_method_12_code
def yX1_becomeLike : MethodName := ⟨RX1, "becomeLike", "(LPegrow$Row;)V"⟩
abbrev cX1_turnRound : ByteArray := prog_3_method_13_code
def yX1_turnRound : MethodName := ⟨RX1, "turnRound", "()V"⟩
abbrev cX1_weaveIn : ByteArray := prog_3_method_14_code
def yX1_weaveIn : MethodName := ⟨RX1, "weaveIn", "(LPegrow$Row;)V"⟩
abbrev cX1_takeRepeats : ByteArray := prog_3_method_15_code
def yX1_takeRepeats : MethodName := ⟨RX1, "takeRepeats", "()I"⟩
abbrev cX1_number : ByteArray := prog_3_method_16_code
def yX1_number : MethodName := ⟨RX1, "number", "()I"⟩
abbrev cX1_openAt : ByteArray := prog_3_method_17_code
def yX1_openAt : MethodName := ⟨RX1, "openAt", "(II)V"⟩
def RX2 : String := "Pegrow"
def TX2 : u_T := fun k => match k with
  | 0 => ("Pegrow", "rows", "[LPegrow$Row;", true)
  | 1 => ("Pegrow", "pegs", "[LPegrow$Peg;", true)
  | 2 => ("Pegrow", "made", "I", false)
  | 3 => ("Pegrow", "emptyRefusals", "I", false)
  | 4 => ("Pegrow", "placeRefusals", "I", false)
  | 5 => ("Pegrow", "stateRefusals", "I", false)
  | _ => ("Pegrow", "oldRefusals", "I", false)
def tyX2 : Nat → FieldType := fun k => match k with
  | 0 => .array (.object "Pegrow$Row")
  | 1 => .array (.object "Pegrow$Peg")
  | 2 => .int
  | 3 => .int
  | 4 => .int
  | 5 => .int
  | _ => .int
abbrev wsX20 : List Cond := u_ws RX2 TX2 7
theorem nmX2 : ∀ a, a < 7 → ∀ b, b < 7 → a ≠ b → (TX2 a).2.1 ≠ (TX2 b).2.1 := by decide +kernel
theorem tyX2_ok : ∀ k, k < 7 → parseFieldDescriptor (TX2 k).2.2.1 = some (tyX2 k) := by decide +kernel
abbrev cX2_init : ByteArray := prog_1_method_1_code
def yX2_init : MethodName := ⟨RX2, "<init>", "()V"⟩
abbrev cX2_put : ByteArray := prog_1_method_2_code
def yX2_put : MethodName := ⟨RX2, "put", "(IIZI)I"⟩
abbrev cX2_end : ByteArray := prog_1_method_3_code
def yX2_end : MethodName := ⟨RX2, "end", "(IZI)I"⟩
abbrev cX2_take : ByteArray := prog_1_method_4_code
def yX2_take : MethodName := ⟨RX2, "take", "(IZI)I"⟩
abbrev cX2_at : ByteArray := prog_1_method_5_code
def yX2_at : MethodName := ⟨RX2, "at", "(II)I"⟩
abbrev cX2_lay : ByteArray := prog_1_method_6_code
def yX2_lay : MethodName := ⟨RX2, "lay", "(III)I"⟩
abbrev cX2_insert : ByteArray := prog_1_method_7_code
def yX2_insert : MethodName := ⟨RX2, "insert", "(III)I"⟩
abbrev cX2_drop : ByteArray := prog_1_method_8_code
def yX2_drop : MethodName := ⟨RX2, "drop", "(II)I"⟩
abbrev cX2_find : ByteArray := prog_1_method_9_code
def yX2_find : MethodName := ⟨RX2, "find", "(IIZ)I"⟩
abbrev cX2_has : ByteArray := prog_1_method_10_code
def yX2_has : MethodName := ⟨RX2, "has", "(II)I"⟩
abbrev cX2_lose : ByteArray := prog_1_method_11_code
def yX2_lose : MethodName := ⟨RX2, "lose", "(III)I"⟩
abbrev cX2_all : ByteArray := prog_1_method_12_code
def yX2_all : MethodName := ⟨RX2, "all", "(III)I"⟩
abbrev cX2_clear : ByteArray := prog_1_method_13_code
def yX2_clear : MethodName := ⟨RX2, "clear", "(I)I"⟩
abbrev cX2_copy : ByteArray := prog_1_method_14_code
def yX2_copy : MethodName := ⟨RX2, "copy", "(II)I"⟩
abbrev cX2_turn : ByteArray := prog_1_method_15_code
def yX2_turn : MethodName := ⟨RX2, "turn", "(I)I"⟩
abbrev cX2_weave : ByteArray := prog_1_method_16_code
def yX2_weave : MethodName := ⟨RX2, "weave", "(II)I"⟩
abbrev cX2_prune : ByteArray := prog_1_method_17_code
def yX2_prune : MethodName := ⟨RX2, "prune", "(I)I"⟩
abbrev cX2_size : ByteArray := prog_1_method_18_code
def yX2_size : MethodName := ⟨RX2, "size", "(I)I"⟩
abbrev cX2_sum : ByteArray := prog_1_method_19_code
def yX2_sum : MethodName := ⟨RX2, "sum", "(I)I"⟩
abbrev cX2_peg : ByteArray := prog_1_method_20_code
def yX2_peg : MethodName := ⟨RX2, "peg", "(III)I"⟩
abbrev cX2_next : ByteArray := prog_1_method_21_code
def yX2_next : MethodName := ⟨RX2, "next", "(I)I"⟩
abbrev cX2_previous : ByteArray := prog_1_method_22_code
def yX2_previous : MethodName := ⟨RX2, "previous", "(I)I"⟩
abbrev cX2_side : ByteArray := prog_1_method_23_code
def yX2_side : MethodName := ⟨RX2, "side", "(II)I"⟩
abbrev cX2_change : ByteArray := prog_1_method_24_code
def yX2_change : MethodName := ⟨RX2, "change", "(II)I"⟩
abbrev cX2_add : ByteArray := prog_1_method_25_code
def yX2_add : MethodName := ⟨RX2, "add", "(II)I"⟩
abbrev cX2_remove : ByteArray := prog_1_method_26_code
def yX2_remove : MethodName := ⟨RX2, "remove", "(I)I"⟩
abbrev cX2_old : ByteArray := prog_1_method_27_code
def yX2_old : MethodName := ⟨RX2, "old", "(I)I"⟩
abbrev cX2_count : ByteArray := prog_1_method_28_code
def yX2_count : MethodName := ⟨RX2, "count", "(I)I"⟩
abbrev cX2_rowOf : ByteArray := prog_1_method_29_code
def yX2_rowOf : MethodName := ⟨RX2, "rowOf", "(I)LPegrow$Row;"⟩
abbrev cX2_pegOf : ByteArray := prog_1_method_30_code
def yX2_pegOf : MethodName := ⟨RX2, "pegOf", "(I)LPegrow$Peg;"⟩
abbrev cX2_isName : ByteArray := prog_1_method_31_code
def yX2_isName : MethodName := ⟨RX2, "isName", "(I)Z"⟩
abbrev cX2_isEndWay : ByteArray := prog_1_method_32_code
def yX2_isEndWay : MethodName := ⟨RX2, "isEndWay", "(IIZ)Z"⟩
abbrev cX2_oneIf : ByteArray := prog_1_method_33_code
def yX2_oneIf : MethodName := ⟨RX2, "oneIf", "(Z)I"⟩
abbrev cX2_newThing : ByteArray := prog_1_method_34_code
def yX2_newThing : MethodName := ⟨RX2, "newThing", "(I)I"⟩
abbrev cX2_noEnd : ByteArray := prog_1_method_35_code
def yX2_noEnd : MethodName := ⟨RX2, "noEnd", "(I)I"⟩
abbrev cX2_refused : ByteArray := prog_1_method_36_code
def yX2_refused : MethodName := ⟨RX2, "refused", "(I)I"⟩
abbrev cX2_goOver : ByteArray := prog_1_method_37_code
def yX2_goOver : MethodName := ⟨RX2, "goOver", "(IZ)I"⟩
abbrev cX2_handFault : ByteArray := prog_1_method_38_code
def yX2_handFault : MethodName := ⟨RX2, "handFault", "(LPegrow$Peg;LPegrow$Row;)I"⟩
abbrev cX2_standingPegs : ByteArray := prog_1_method_39_code
def yX2_standingPegs : MethodName := ⟨RX2, "standingPegs", "()I"⟩
abbrev cX2_oldPegs : ByteArray := prog_1_method_40_code
def yX2_oldPegs : MethodName := ⟨RX2, "oldPegs", "()I"⟩
def RX3 : String := "PegrowModel"
def TX3 : u_T := fun k => match k with
  | 0 => ("PegrowModel", "things", "[I", true)
  | 1 => ("PegrowModel", "sizes", "[I", true)
  | 2 => ("PegrowModel", "made", "I", false)
  | 3 => ("PegrowModel", "refusals", "[I", true)
  | 4 => ("PegrowModel", "rowOf", "[I", true)
  | 5 => ("PegrowModel", "placeOf", "[I", true)
  | 6 => ("PegrowModel", "hand", "[I", true)
  | 7 => ("PegrowModel", "handAt", "[I", true)
  | 8 => ("PegrowModel", "isLost", "[I", true)
  | 9 => ("PegrowModel", "isOld", "[I", true)
  | _ => ("PegrowModel", "aside", "[I", true)
def tyX3 : Nat → FieldType := fun k => match k with
  | 0 => .array .int
  | 1 => .array .int
  | 2 => .int
  | 3 => .array .int
  | 4 => .array .int
  | 5 => .array .int
  | 6 => .array .int
  | 7 => .array .int
  | 8 => .array .int
  | 9 => .array .int
  | _ => .array .int
abbrev wsX30 : List Cond := u_ws RX3 TX3 11
theorem nmX3 : ∀ a, a < 11 → ∀ b, b < 11 → a ≠ b → (TX3 a).2.1 ≠ (TX3 b).2.1 := by decide +kernel
theorem tyX3_ok : ∀ k, k < 11 → parseFieldDescriptor (TX3 k).2.2.1 = some (tyX3 k) := by decide +kernel
abbrev cX3_init : ByteArray := prog_5_method_1_code
def yX3_init : MethodName := ⟨RX3, "<init>", "()V"⟩
abbrev cX3_in : ByteArray := prog_5_method_2_code
def yX3_in : MethodName := ⟨RX3, "in", "(III)Z"⟩
abbrev cX3_isRow : ByteArray := prog_5_method_3_code
def yX3_isRow : MethodName := ⟨RX3, "isRow", "(I)Z"⟩
abbrev cX3_isName : ByteArray := prog_5_method_4_code
def yX3_isName : MethodName := ⟨RX3, "isName", "(I)Z"⟩
abbrev cX3_isPeg : ByteArray := prog_5_method_5_code
def yX3_isPeg : MethodName := ⟨RX3, "isPeg", "(I)Z"⟩
abbrev cX3_refuse : ByteArray := prog_5_method_6_code
def yX3_refuse : MethodName := ⟨RX3, "refuse", "(II)I"⟩
abbrev cX3_make : ByteArray := prog_5_method_7_code
def yX3_make : MethodName := ⟨RX3, "make", "(I)I"⟩
abbrev cX3_thing : ByteArray := prog_5_method_8_code
def yX3_thing : MethodName := ⟨RX3, "thing", "(II)I"⟩
abbrev cX3_age : ByteArray := prog_5_method_9_code
def yX3_age : MethodName := ⟨RX3, "age", "(II)V"⟩
abbrev cX3_open : ByteArray := prog_5_method_10_code
def yX3_open : MethodName := ⟨RX3, "open", "(III)V"⟩
abbrev cX3_close : ByteArray := prog_5_method_11_code
def yX3_close : MethodName := ⟨RX3, "close", "(II)I"⟩
abbrev cX3_placeBy : ByteArray := prog_5_method_12_code
def yX3_placeBy : MethodName := ⟨RX3, "placeBy", "(IIZ)I"⟩
abbrev cX3_put : ByteArray := prog_5_method_13_code
def yX3_put : MethodName := ⟨RX3, "put", "(IIZI)I"⟩
abbrev cX3_end : ByteArray := prog_5_method_14_code
def yX3_end : MethodName := ⟨RX3, "end", "(IZI)I"⟩
abbrev cX3_take : ByteArray := prog_5_method_15_code
def yX3_take : MethodName := ⟨RX3, "take", "(IZI)I"⟩
abbrev cX3_at : ByteArray := prog_5_method_16_code
def yX3_at : MethodName := ⟨RX3, "at", "(II)I"⟩
abbrev cX3_lay : ByteArray := prog_5_method_17_code
def yX3_lay : MethodName := ⟨RX3, "lay", "(III)I"⟩
abbrev cX3_insert : ByteArray := prog_5_method_18_code
def yX3_insert : MethodName := ⟨RX3, "insert", "(III)I"⟩
abbrev cX3_drop : ByteArray := prog_5_method_19_code
def yX3_drop : MethodName := ⟨RX3, "drop", "(II)I"⟩
abbrev cX3_find : ByteArray := prog_5_method_20_code
def yX3_find : MethodName := ⟨RX3, "find", "(IIZ)I"⟩
abbrev cX3_has : ByteArray := prog_5_method_21_code
def yX3_has : MethodName := ⟨RX3, "has", "(II)I"⟩
abbrev cX3_lose : ByteArray := prog_5_method_22_code
def yX3_lose : MethodName := ⟨RX3, "lose", "(III)I"⟩
abbrev cX3_areTwo : ByteArray := prog_5_method_23_code
def yX3_areTwo : MethodName := ⟨RX3, "areTwo", "(II)Z"⟩
abbrev cX3_all : ByteArray := prog_5_method_24_code
def yX3_all : MethodName := ⟨RX3, "all", "(III)I"⟩
abbrev cX3_clear : ByteArray := prog_5_method_25_code
def yX3_clear : MethodName := ⟨RX3, "clear", "(I)I"⟩
abbrev cX3_leave : ByteArray := prog_5_method_26_code
def yX3_leave : MethodName := ⟨RX3, "leave", "(I)V"⟩
abbrev cX3_copy : ByteArray := prog_5_method_27_code
def yX3_copy : MethodName := ⟨RX3, "copy", "(II)I"⟩
abbrev cX3_turn : ByteArray := prog_5_method_28_code
def yX3_turn : MethodName := ⟨RX3, "turn", "(I)I"⟩
abbrev cX3_weave : ByteArray := prog_5_method_29_code
def yX3_weave : MethodName := ⟨RX3, "weave", "(II)I"⟩
abbrev cX3_prune : ByteArray := prog_5_method_30_code
def yX3_prune : MethodName := ⟨RX3, "prune", "(I)I"⟩
abbrev cX3_size : ByteArray := prog_5_method_31_code
def yX3_size : MethodName := ⟨RX3, "size", "(I)I"⟩
abbrev cX3_sum : ByteArray := prog_5_method_32_code
def yX3_sum : MethodName := ⟨RX3, "sum", "(I)I"⟩
abbrev cX3_peg : ByteArray := prog_5_method_33_code
def yX3_peg : MethodName := ⟨RX3, "peg", "(III)I"⟩
abbrev cX3_bars : ByteArray := prog_5_method_34_code
def yX3_bars : MethodName := ⟨RX3, "bars", "(I)I"⟩
abbrev cX3_goes : ByteArray := prog_5_method_35_code
def yX3_goes : MethodName := ⟨RX3, "goes", "(III)I"⟩
abbrev cX3_next : ByteArray := prog_5_method_36_code
def yX3_next : MethodName := ⟨RX3, "next", "(I)I"⟩
abbrev cX3_previous : ByteArray := prog_5_method_37_code
def yX3_previous : MethodName := ⟨RX3, "previous", "(I)I"⟩
abbrev cX3_side : ByteArray := prog_5_method_38_code
def yX3_side : MethodName := ⟨RX3, "side", "(II)I"⟩
abbrev cX3_barsHand : ByteArray := prog_5_method_39_code
def yX3_barsHand : MethodName := ⟨RX3, "barsHand", "(I)I"⟩
abbrev cX3_change : ByteArray := prog_5_method_40_code
def yX3_change : MethodName := ⟨RX3, "change", "(II)I"⟩
abbrev cX3_add : ByteArray := prog_5_method_41_code
def yX3_add : MethodName := ⟨RX3, "add", "(II)I"⟩
abbrev cX3_remove : ByteArray := prog_5_method_42_code
def yX3_remove : MethodName := ⟨RX3, "remove", "(I)I"⟩
abbrev cX3_old : ByteArray := prog_5_method_43_code
def yX3_old : MethodName := ⟨RX3, "old", "(I)I"⟩
abbrev cX3_standing : ByteArray := prog_5_method_44_code
def yX3_standing : MethodName := ⟨RX3, "standing", "()I"⟩
abbrev cX3_count : ByteArray := prog_5_method_45_code
def yX3_count : MethodName := ⟨RX3, "count", "(I)I"⟩
def RJ9 : String := "java/lang/Math"
def TJ9 : u_T := fun k => match k with
  | _ => ("", "", "", false)
def tyJ9 : Nat → FieldType := fun k => match k with
  | _ => .int
abbrev wsJ90 : List Cond := u_ws RJ9 TJ9 0
theorem nmJ9 : ∀ a, a < 0 → ∀ b, b < 0 → a ≠ b → (TJ9 a).2.1 ≠ (TJ9 b).2.1 := by decide +kernel
theorem tyJ9_ok : ∀ k, k < 0 → parseFieldDescriptor (TJ9 k).2.2.1 = some (tyJ9 k) := by decide +kernel
abbrev cJ9_min_7cf53 : ByteArray := prog_6_method_69_code
def yJ9_min_7cf53 : MethodName := ⟨RJ9, "min", "(II)I"⟩
def RL : String := "PegrowLaw"
abbrev cL_law : ByteArray := code
def yL_law : MethodName := ⟨RL, "law", "([I)Z"⟩
def wsX0_init : List Cond := .code yX0_init cX0_init 1 none :: ([.methodLink RX0 3 objectInit, .instanceMethod objectInit, .code objectInit ⟨#[0xb1]⟩ 1 none, .fieldLink RX0 9 "Pegrow$Peg" "hand" "I"] ++ wsX00)
def wsX0_standIn : List Cond := .code yX0_standIn cX0_standIn 3 none :: ([.fieldLink RX0 15 "Pegrow$Peg" "row" "LPegrow$Row;", .fieldLink RX0 19 "Pegrow$Peg" "ahead" "I", .fieldLink RX0 27 "Pegrow$Peg" "seen" "I", .fieldLink RX0 9 "Pegrow$Peg" "hand" "I", .fieldLink RX0 30 "Pegrow$Peg" "missed" "Z"] ++ wsX00 ++ wsX10)
def wsX0_leave : List Cond := .code yX0_leave cX0_leave 2 none :: ([.fieldLink RX0 15 "Pegrow$Peg" "row" "LPegrow$Row;"] ++ wsX00)
def wsX0_hold : List Cond := .code yX0_hold cX0_hold 3 (some .int) :: ([.fieldLink RX0 9 "Pegrow$Peg" "hand" "I", .fieldLink RX0 34 "Pegrow$Peg" "held" "I", .fieldLink RX0 30 "Pegrow$Peg" "missed" "Z"] ++ wsX00)
def wsX0_isOld : List Cond := .code yX0_isOld cX0_isOld 1 (some .boolean) :: ([.fieldLink RX0 15 "Pegrow$Peg" "row" "LPegrow$Row;", .fieldLink RX0 27 "Pegrow$Peg" "seen" "I"] ++ wsX00 ++ wsX10)
def wsX1_init : List Cond := .code yX1_init cX1_init 1 none :: ([.methodLink RX1 3 objectInit, .instanceMethod objectInit, .code objectInit ⟨#[0xb1]⟩ 1 none, .arrayClass .int, .fieldLink RX1 9 "Pegrow$Row" "things" "[I"] ++ wsX10)
def wsX1_hasThingAt : List Cond := .code yX1_hasThingAt cX1_hasThingAt 2 (some .boolean) :: ([.fieldLink RX1 15 "Pegrow$Row" "length" "I"] ++ wsX10)
def wsX1_canPutAt : List Cond := .code yX1_canPutAt cX1_canPutAt 2 (some .boolean) :: ([.fieldLink RX1 15 "Pegrow$Row" "length" "I"] ++ wsX10)
def wsX1_hasRoomFor : List Cond := .code yX1_hasRoomFor cX1_hasRoomFor 2 (some .boolean) :: ([.fieldLink RX1 15 "Pegrow$Row" "length" "I"] ++ wsX10)
def wsX1_thingAt : List Cond := .code yX1_thingAt cX1_thingAt 2 (some .int) :: ([.fieldLink RX1 9 "Pegrow$Row" "things" "[I"] ++ wsX10)
def wsX1_layAt : List Cond := .code yX1_layAt cX1_layAt 4 (some .int) :: ([.fieldLink RX1 9 "Pegrow$Row" "things" "[I"] ++ wsX10)
def wsX1_openAt : List Cond := .code yX1_openAt cX1_openAt 4 none :: ([.fieldLink RX1 15 "Pegrow$Row" "length" "I", .fieldLink RX1 9 "Pegrow$Row" "things" "[I", .fieldLink RX1 27 "Pegrow$Row" "changes" "I"] ++ wsX10)
def wsX1_putAt : List Cond := .code yX1_putAt cX1_putAt 3 none :: ([.fieldLink RX1 9 "Pegrow$Row" "things" "[I", .methodLink RX1 19 yX1_openAt, .instanceMethod yX1_openAt, .selects RX1 yX1_openAt yX1_openAt, .initialized RX1, .code yX1_openAt cX1_openAt 4 none, .fieldLink RX1 15 "Pegrow$Row" "length" "I", .fieldLink RX1 27 "Pegrow$Row" "changes" "I"] ++ wsX10)
def wsX1_putAllAt : List Cond := .code yX1_putAllAt cX1_putAllAt 4 none :: ([.fieldLink RX1 15 "Pegrow$Row" "length" "I", .fieldLink RX1 9 "Pegrow$Row" "things" "[I", .methodLink RX1 19 yX1_openAt, .instanceMethod yX1_openAt, .selects RX1 yX1_openAt yX1_openAt, .initialized RX1, .code yX1_openAt cX1_openAt 4 none, .fieldLink RX1 27 "Pegrow$Row" "changes" "I"] ++ wsX10)
def wsX1_keepFirst : List Cond := .code yX1_keepFirst cX1_keepFirst 2 none :: ([.fieldLink RX1 15 "Pegrow$Row" "length" "I", .fieldLink RX1 27 "Pegrow$Row" "changes" "I"] ++ wsX10)
def wsX1_takeAt : List Cond := .code yX1_takeAt cX1_takeAt 4 (some .int) :: ([.fieldLink RX1 9 "Pegrow$Row" "things" "[I", .fieldLink RX1 15 "Pegrow$Row" "length" "I", .methodLink RX1 23 yX1_keepFirst, .instanceMethod yX1_keepFirst, .selects RX1 yX1_keepFirst yX1_keepFirst, .initialized RX1, .code yX1_keepFirst cX1_keepFirst 2 none, .fieldLink RX1 27 "Pegrow$Row" "changes" "I"] ++ wsX10)
def wsX1_placeOf : List Cond := .code yX1_placeOf cX1_placeOf 5 (some .int) :: ([.fieldLink RX1 15 "Pegrow$Row" "length" "I", .fieldLink RX1 9 "Pegrow$Row" "things" "[I"] ++ wsX10)
def wsX1_becomeLike : List Cond := .code yX1_becomeLike cX1_becomeLike 3 none :: ([.fieldLink RX1 15 "Pegrow$Row" "length" "I", .fieldLink RX1 9 "Pegrow$Row" "things" "[I"] ++ wsX10)
def wsX1_turnRound : List Cond := .code yX1_turnRound cX1_turnRound 2 none :: ([.fieldLink RX1 15 "Pegrow$Row" "length" "I", .fieldLink RX1 9 "Pegrow$Row" "things" "[I", .methodLink RX1 30 yX1_layAt, .instanceMethod yX1_layAt, .selects RX1 yX1_layAt yX1_layAt, .initialized RX1, .code yX1_layAt cX1_layAt 4 (some .int)] ++ wsX10)
def wsX1_weaveIn : List Cond := .code yX1_weaveIn cX1_weaveIn 4 none :: ([.fieldLink RX1 15 "Pegrow$Row" "length" "I", .methodLink RX1 34 Lib.Math.min.name, .static Lib.Math.min.name, .initialized "java/lang/Math", .code Lib.Math.min.name Lib.Math.min.code 2 (some .int), .fieldLink RX1 9 "Pegrow$Row" "things" "[I", .methodLink RX1 19 yX1_openAt, .instanceMethod yX1_openAt, .selects RX1 yX1_openAt yX1_openAt, .initialized RX1, .code yX1_openAt cX1_openAt 4 none, .fieldLink RX1 27 "Pegrow$Row" "changes" "I"] ++ wsX10)
def wsX1_takeRepeats : List Cond := .code yX1_takeRepeats cX1_takeRepeats 6 (some .int) :: ([.fieldLink RX1 15 "Pegrow$Row" "length" "I", .fieldLink RX1 9 "Pegrow$Row" "things" "[I", .methodLink RX1 23 yX1_keepFirst, .instanceMethod yX1_keepFirst, .selects RX1 yX1_keepFirst yX1_keepFirst, .initialized RX1, .code yX1_keepFirst cX1_keepFirst 2 none, .fieldLink RX1 27 "Pegrow$Row" "changes" "I"] ++ wsX10)
def wsX1_number : List Cond := .code yX1_number cX1_number 3 (some .int) :: ([.fieldLink RX1 15 "Pegrow$Row" "length" "I", .fieldLink RX1 9 "Pegrow$Row" "things" "[I", .constant RX1 39 (1000003)] ++ wsX10)
def wsX2_init : List Cond := .code yX2_init cX2_init 2 none :: ([.methodLink RX2 1 objectInit, .instanceMethod objectInit, .code objectInit ⟨#[0xb1]⟩ 1 none, .classLink RX2 9 RX1, .fieldLink RX2 11 "Pegrow" "rows" "[LPegrow$Row;", .classLink RX2 15 RX0, .fieldLink RX2 17 "Pegrow" "pegs" "[LPegrow$Peg;", .instantiable RX1 3, .initialized RX1, .instantiable RX0 6, .initialized RX0, .instanceMethod yX1_init, .code yX1_init cX1_init 1 none, .methodLink RX1 3 objectInit, .arrayClass .int, .fieldLink RX1 9 "Pegrow$Row" "things" "[I", .instanceMethod yX0_init, .code yX0_init cX0_init 1 none, .methodLink RX0 3 objectInit, .fieldLink RX0 9 "Pegrow$Peg" "hand" "I"] ++ wsX20 ++ wsX10 ++ wsX00)
def wsX2_rowOf : List Cond := .code yX2_rowOf cX2_rowOf 2 (some (.object "Pegrow$Row")) :: ([.fieldLink RX2 11 "Pegrow" "rows" "[LPegrow$Row;"] ++ wsX20)
def wsX2_isName : List Cond := .code yX2_isName cX2_isName 1 (some .boolean) :: ([])
def wsX2_newThing : List Cond := .code yX2_newThing cX2_newThing 3 (some .int) :: ([.fieldLink RX2 146 "Pegrow" "made" "I"] ++ wsX20)
def wsX2_put_r1 : List Cond := [Cond.methodLink RX2 23 yX2_rowOf, Cond.instanceMethod yX2_rowOf, Cond.selects RX2 yX2_rowOf yX2_rowOf, Cond.initialized RX2, Cond.code yX2_rowOf cX2_rowOf 2 (some (.object "Pegrow$Row")), Cond.fieldLink RX2 11 "Pegrow" "rows" "[LPegrow$Row;", Cond.methodLink RX2 27 yX2_isName, Cond.static yX2_isName, Cond.code yX2_isName cX2_isName 1 (some .boolean), Cond.methodLink RX2 31 yX1_hasRoomFor, Cond.instanceMethod yX1_hasRoomFor, Cond.selects RX1 yX1_hasRoomFor yX1_hasRoomFor, Cond.initialized RX1, Cond.code yX1_hasRoomFor cX1_hasRoomFor 2 (some .boolean), Cond.fieldLink RX1 15 "Pegrow$Row" "length" "I", Cond.methodLink RX2 38 yX2_newThing, Cond.instanceMethod yX2_newThing, Cond.selects RX2 yX2_newThing yX2_newThing, Cond.code yX2_newThing cX2_newThing 3 (some .int), Cond.fieldLink RX2 146 "Pegrow" "made" "I", Cond.methodLink RX2 42 yX1_putAt, Cond.instanceMethod yX1_putAt, Cond.selects RX1 yX1_putAt yX1_putAt, Cond.code yX1_putAt cX1_putAt 3 none]
def wsX2_put_r2 : List Cond := [Cond.fieldLink RX1 9 "Pegrow$Row" "things" "[I", Cond.methodLink RX1 19 yX1_openAt, Cond.instanceMethod yX1_openAt, Cond.selects RX1 yX1_openAt yX1_openAt, Cond.code yX1_openAt cX1_openAt 4 none, Cond.fieldLink RX1 27 "Pegrow$Row" "changes" "I"]
def wsX2_put : List Cond := .code yX2_put cX2_put 6 (some .int) :: ((wsX2_put_r1 ++ wsX2_put_r2) ++ wsX10 ++ wsX20)
def wsX2_isEndWay : List Cond := .code yX2_isEndWay cX2_isEndWay 3 (some .boolean) :: ([])
def wsX2_refused : List Cond := .code yX2_refused cX2_refused 2 (some .int) :: ([.fieldLink RX2 149 "Pegrow" "emptyRefusals" "I", .fieldLink RX2 152 "Pegrow" "placeRefusals" "I", .fieldLink RX2 155 "Pegrow" "stateRefusals" "I", .fieldLink RX2 158 "Pegrow" "oldRefusals" "I"] ++ wsX20)
def wsX2_noEnd : List Cond := .code yX2_noEnd cX2_noEnd 2 (some .int) :: ([.methodLink RX2 62 yX2_refused, .instanceMethod yX2_refused, .selects RX2 yX2_refused yX2_refused, .initialized RX2, .code yX2_refused cX2_refused 2 (some .int), .fieldLink RX2 149 "Pegrow" "emptyRefusals" "I", .fieldLink RX2 152 "Pegrow" "placeRefusals" "I", .fieldLink RX2 155 "Pegrow" "stateRefusals" "I", .fieldLink RX2 158 "Pegrow" "oldRefusals" "I"] ++ wsX20)
def wsX2_end_r1 : List Cond := [Cond.methodLink RX2 23 yX2_rowOf, Cond.instanceMethod yX2_rowOf, Cond.selects RX2 yX2_rowOf yX2_rowOf, Cond.initialized RX2, Cond.code yX2_rowOf cX2_rowOf 2 (some (.object "Pegrow$Row")), Cond.fieldLink RX2 11 "Pegrow" "rows" "[LPegrow$Row;", Cond.methodLink RX2 46 yX2_isEndWay, Cond.static yX2_isEndWay, Cond.code yX2_isEndWay cX2_isEndWay 3 (some .boolean), Cond.methodLink RX2 50 yX2_noEnd, Cond.instanceMethod yX2_noEnd, Cond.selects RX2 yX2_noEnd yX2_noEnd, Cond.code yX2_noEnd cX2_noEnd 2 (some .int), Cond.methodLink RX2 62 yX2_refused, Cond.instanceMethod yX2_refused, Cond.selects RX2 yX2_refused yX2_refused, Cond.code yX2_refused cX2_refused 2 (some .int), Cond.fieldLink RX2 149 "Pegrow" "emptyRefusals" "I", Cond.fieldLink RX2 152 "Pegrow" "placeRefusals" "I", Cond.fieldLink RX2 155 "Pegrow" "stateRefusals" "I", Cond.fieldLink RX2 158 "Pegrow" "oldRefusals" "I", Cond.methodLink RX2 53 yX1_thingAt, Cond.instanceMethod yX1_thingAt, Cond.selects RX1 yX1_thingAt yX1_thingAt]
def wsX2_end_r2 : List Cond := [Cond.initialized RX1, Cond.code yX1_thingAt cX1_thingAt 2 (some .int), Cond.fieldLink RX1 9 "Pegrow$Row" "things" "[I"]
def wsX2_end : List Cond := .code yX2_end cX2_end 5 (some .int) :: ((wsX2_end_r1 ++ wsX2_end_r2) ++ wsX10 ++ wsX20)
def wsX2_take_r1 : List Cond := [Cond.methodLink RX2 23 yX2_rowOf, Cond.instanceMethod yX2_rowOf, Cond.selects RX2 yX2_rowOf yX2_rowOf, Cond.initialized RX2, Cond.code yX2_rowOf cX2_rowOf 2 (some (.object "Pegrow$Row")), Cond.fieldLink RX2 11 "Pegrow" "rows" "[LPegrow$Row;", Cond.methodLink RX2 46 yX2_isEndWay, Cond.static yX2_isEndWay, Cond.code yX2_isEndWay cX2_isEndWay 3 (some .boolean), Cond.methodLink RX2 50 yX2_noEnd, Cond.instanceMethod yX2_noEnd, Cond.selects RX2 yX2_noEnd yX2_noEnd, Cond.code yX2_noEnd cX2_noEnd 2 (some .int), Cond.methodLink RX2 62 yX2_refused, Cond.instanceMethod yX2_refused, Cond.selects RX2 yX2_refused yX2_refused, Cond.code yX2_refused cX2_refused 2 (some .int), Cond.fieldLink RX2 149 "Pegrow" "emptyRefusals" "I", Cond.fieldLink RX2 152 "Pegrow" "placeRefusals" "I", Cond.fieldLink RX2 155 "Pegrow" "stateRefusals" "I", Cond.fieldLink RX2 158 "Pegrow" "oldRefusals" "I", Cond.methodLink RX2 56 yX1_takeAt, Cond.instanceMethod yX1_takeAt, Cond.selects RX1 yX1_takeAt yX1_takeAt]
def wsX2_take_r2 : List Cond := [Cond.initialized RX1, Cond.code yX1_takeAt cX1_takeAt 4 (some .int), Cond.fieldLink RX1 9 "Pegrow$Row" "things" "[I", Cond.fieldLink RX1 15 "Pegrow$Row" "length" "I", Cond.methodLink RX1 23 yX1_keepFirst, Cond.instanceMethod yX1_keepFirst, Cond.selects RX1 yX1_keepFirst yX1_keepFirst, Cond.code yX1_keepFirst cX1_keepFirst 2 none, Cond.fieldLink RX1 27 "Pegrow$Row" "changes" "I"]
def wsX2_take : List Cond := .code yX2_take cX2_take 5 (some .int) :: ((wsX2_take_r1 ++ wsX2_take_r2) ++ wsX10 ++ wsX20)
def wsX2_at_r1 : List Cond := [Cond.methodLink RX2 23 yX2_rowOf, Cond.instanceMethod yX2_rowOf, Cond.selects RX2 yX2_rowOf yX2_rowOf, Cond.initialized RX2, Cond.code yX2_rowOf cX2_rowOf 2 (some (.object "Pegrow$Row")), Cond.fieldLink RX2 11 "Pegrow" "rows" "[LPegrow$Row;", Cond.methodLink RX2 59 yX1_hasThingAt, Cond.instanceMethod yX1_hasThingAt, Cond.selects RX1 yX1_hasThingAt yX1_hasThingAt, Cond.initialized RX1, Cond.code yX1_hasThingAt cX1_hasThingAt 2 (some .boolean), Cond.fieldLink RX1 15 "Pegrow$Row" "length" "I", Cond.methodLink RX2 62 yX2_refused, Cond.instanceMethod yX2_refused, Cond.selects RX2 yX2_refused yX2_refused, Cond.code yX2_refused cX2_refused 2 (some .int), Cond.fieldLink RX2 149 "Pegrow" "emptyRefusals" "I", Cond.fieldLink RX2 152 "Pegrow" "placeRefusals" "I", Cond.fieldLink RX2 155 "Pegrow" "stateRefusals" "I", Cond.fieldLink RX2 158 "Pegrow" "oldRefusals" "I", Cond.methodLink RX2 53 yX1_thingAt, Cond.instanceMethod yX1_thingAt, Cond.selects RX1 yX1_thingAt yX1_thingAt, Cond.code yX1_thingAt cX1_thingAt 2 (some .int)]
def wsX2_at_r2 : List Cond := [Cond.fieldLink RX1 9 "Pegrow$Row" "things" "[I"]
def wsX2_at : List Cond := .code yX2_at cX2_at 4 (some .int) :: ((wsX2_at_r1 ++ wsX2_at_r2) ++ wsX20 ++ wsX10)
def wsX2_lay_r1 : List Cond := [Cond.methodLink RX2 23 yX2_rowOf, Cond.instanceMethod yX2_rowOf, Cond.selects RX2 yX2_rowOf yX2_rowOf, Cond.initialized RX2, Cond.code yX2_rowOf cX2_rowOf 2 (some (.object "Pegrow$Row")), Cond.fieldLink RX2 11 "Pegrow" "rows" "[LPegrow$Row;", Cond.methodLink RX2 27 yX2_isName, Cond.static yX2_isName, Cond.code yX2_isName cX2_isName 1 (some .boolean), Cond.methodLink RX2 59 yX1_hasThingAt, Cond.instanceMethod yX1_hasThingAt, Cond.selects RX1 yX1_hasThingAt yX1_hasThingAt, Cond.initialized RX1, Cond.code yX1_hasThingAt cX1_hasThingAt 2 (some .boolean), Cond.fieldLink RX1 15 "Pegrow$Row" "length" "I", Cond.methodLink RX2 62 yX2_refused, Cond.instanceMethod yX2_refused, Cond.selects RX2 yX2_refused yX2_refused, Cond.code yX2_refused cX2_refused 2 (some .int), Cond.fieldLink RX2 149 "Pegrow" "emptyRefusals" "I", Cond.fieldLink RX2 152 "Pegrow" "placeRefusals" "I", Cond.fieldLink RX2 155 "Pegrow" "stateRefusals" "I", Cond.fieldLink RX2 158 "Pegrow" "oldRefusals" "I", Cond.methodLink RX2 38 yX2_newThing]
def wsX2_lay_r2 : List Cond := [Cond.instanceMethod yX2_newThing, Cond.selects RX2 yX2_newThing yX2_newThing, Cond.code yX2_newThing cX2_newThing 3 (some .int), Cond.fieldLink RX2 146 "Pegrow" "made" "I", Cond.methodLink RX2 65 yX1_layAt, Cond.instanceMethod yX1_layAt, Cond.selects RX1 yX1_layAt yX1_layAt, Cond.code yX1_layAt cX1_layAt 4 (some .int), Cond.fieldLink RX1 9 "Pegrow$Row" "things" "[I"]
def wsX2_lay : List Cond := .code yX2_lay cX2_lay 5 (some .int) :: ((wsX2_lay_r1 ++ wsX2_lay_r2) ++ wsX20 ++ wsX10)
def wsX2_insert_r1 : List Cond := [Cond.methodLink RX2 23 yX2_rowOf, Cond.instanceMethod yX2_rowOf, Cond.selects RX2 yX2_rowOf yX2_rowOf, Cond.initialized RX2, Cond.code yX2_rowOf cX2_rowOf 2 (some (.object "Pegrow$Row")), Cond.fieldLink RX2 11 "Pegrow" "rows" "[LPegrow$Row;", Cond.methodLink RX2 27 yX2_isName, Cond.static yX2_isName, Cond.code yX2_isName cX2_isName 1 (some .boolean), Cond.methodLink RX2 31 yX1_hasRoomFor, Cond.instanceMethod yX1_hasRoomFor, Cond.selects RX1 yX1_hasRoomFor yX1_hasRoomFor, Cond.initialized RX1, Cond.code yX1_hasRoomFor cX1_hasRoomFor 2 (some .boolean), Cond.fieldLink RX1 15 "Pegrow$Row" "length" "I", Cond.methodLink RX2 69 yX1_canPutAt, Cond.instanceMethod yX1_canPutAt, Cond.selects RX1 yX1_canPutAt yX1_canPutAt, Cond.code yX1_canPutAt cX1_canPutAt 2 (some .boolean), Cond.methodLink RX2 62 yX2_refused, Cond.instanceMethod yX2_refused, Cond.selects RX2 yX2_refused yX2_refused, Cond.code yX2_refused cX2_refused 2 (some .int), Cond.fieldLink RX2 149 "Pegrow" "emptyRefusals" "I"]
def wsX2_insert_r2 : List Cond := [Cond.fieldLink RX2 152 "Pegrow" "placeRefusals" "I", Cond.fieldLink RX2 155 "Pegrow" "stateRefusals" "I", Cond.fieldLink RX2 158 "Pegrow" "oldRefusals" "I", Cond.methodLink RX2 38 yX2_newThing, Cond.instanceMethod yX2_newThing, Cond.selects RX2 yX2_newThing yX2_newThing, Cond.code yX2_newThing cX2_newThing 3 (some .int), Cond.fieldLink RX2 146 "Pegrow" "made" "I", Cond.methodLink RX2 42 yX1_putAt, Cond.instanceMethod yX1_putAt, Cond.selects RX1 yX1_putAt yX1_putAt, Cond.code yX1_putAt cX1_putAt 3 none, Cond.fieldLink RX1 9 "Pegrow$Row" "things" "[I", Cond.methodLink RX1 19 yX1_openAt, Cond.instanceMethod yX1_openAt, Cond.selects RX1 yX1_openAt yX1_openAt, Cond.code yX1_openAt cX1_openAt 4 none, Cond.fieldLink RX1 27 "Pegrow$Row" "changes" "I"]
def wsX2_insert : List Cond := .code yX2_insert cX2_insert 5 (some .int) :: ((wsX2_insert_r1 ++ wsX2_insert_r2) ++ wsX10 ++ wsX20)
def wsX2_drop_r1 : List Cond := [Cond.methodLink RX2 23 yX2_rowOf, Cond.instanceMethod yX2_rowOf, Cond.selects RX2 yX2_rowOf yX2_rowOf, Cond.initialized RX2, Cond.code yX2_rowOf cX2_rowOf 2 (some (.object "Pegrow$Row")), Cond.fieldLink RX2 11 "Pegrow" "rows" "[LPegrow$Row;", Cond.methodLink RX2 59 yX1_hasThingAt, Cond.instanceMethod yX1_hasThingAt, Cond.selects RX1 yX1_hasThingAt yX1_hasThingAt, Cond.initialized RX1, Cond.code yX1_hasThingAt cX1_hasThingAt 2 (some .boolean), Cond.fieldLink RX1 15 "Pegrow$Row" "length" "I", Cond.methodLink RX2 62 yX2_refused, Cond.instanceMethod yX2_refused, Cond.selects RX2 yX2_refused yX2_refused, Cond.code yX2_refused cX2_refused 2 (some .int), Cond.fieldLink RX2 149 "Pegrow" "emptyRefusals" "I", Cond.fieldLink RX2 152 "Pegrow" "placeRefusals" "I", Cond.fieldLink RX2 155 "Pegrow" "stateRefusals" "I", Cond.fieldLink RX2 158 "Pegrow" "oldRefusals" "I", Cond.methodLink RX2 56 yX1_takeAt, Cond.instanceMethod yX1_takeAt, Cond.selects RX1 yX1_takeAt yX1_takeAt, Cond.code yX1_takeAt cX1_takeAt 4 (some .int)]
def wsX2_drop_r2 : List Cond := [Cond.fieldLink RX1 9 "Pegrow$Row" "things" "[I", Cond.methodLink RX1 23 yX1_keepFirst, Cond.instanceMethod yX1_keepFirst, Cond.selects RX1 yX1_keepFirst yX1_keepFirst, Cond.code yX1_keepFirst cX1_keepFirst 2 none, Cond.fieldLink RX1 27 "Pegrow$Row" "changes" "I"]
def wsX2_drop : List Cond := .code yX2_drop cX2_drop 4 (some .int) :: ((wsX2_drop_r1 ++ wsX2_drop_r2) ++ wsX20 ++ wsX10)
def wsX2_find : List Cond := .code yX2_find cX2_find 6 (some .int) :: ([.methodLink RX2 23 yX2_rowOf, .instanceMethod yX2_rowOf, .selects RX2 yX2_rowOf yX2_rowOf, .initialized RX2, .code yX2_rowOf cX2_rowOf 2 (some (.object "Pegrow$Row")), .fieldLink RX2 11 "Pegrow" "rows" "[LPegrow$Row;", .methodLink RX2 27 yX2_isName, .static yX2_isName, .code yX2_isName cX2_isName 1 (some .boolean), .methodLink RX2 72 yX1_placeOf, .instanceMethod yX1_placeOf, .selects RX1 yX1_placeOf yX1_placeOf, .initialized RX1, .code yX1_placeOf cX1_placeOf 5 (some .int), .fieldLink RX1 15 "Pegrow$Row" "length" "I", .fieldLink RX1 9 "Pegrow$Row" "things" "[I"] ++ wsX20 ++ wsX10)
def wsX2_oneIf : List Cond := .code yX2_oneIf cX2_oneIf 1 (some .int) :: ([])
def wsX2_has : List Cond := .code yX2_has cX2_has 4 (some .int) :: ([.methodLink RX2 23 yX2_rowOf, .instanceMethod yX2_rowOf, .selects RX2 yX2_rowOf yX2_rowOf, .initialized RX2, .code yX2_rowOf cX2_rowOf 2 (some (.object "Pegrow$Row")), .fieldLink RX2 11 "Pegrow" "rows" "[LPegrow$Row;", .methodLink RX2 27 yX2_isName, .static yX2_isName, .code yX2_isName cX2_isName 1 (some .boolean), .methodLink RX2 72 yX1_placeOf, .instanceMethod yX1_placeOf, .selects RX1 yX1_placeOf yX1_placeOf, .initialized RX1, .code yX1_placeOf cX1_placeOf 5 (some .int), .fieldLink RX1 15 "Pegrow$Row" "length" "I", .fieldLink RX1 9 "Pegrow$Row" "things" "[I", .methodLink RX2 76 yX2_oneIf, .static yX2_oneIf, .code yX2_oneIf cX2_oneIf 1 (some .int)] ++ wsX20 ++ wsX10)
def wsX2_lose_r1 : List Cond := [Cond.methodLink RX2 23 yX2_rowOf, Cond.instanceMethod yX2_rowOf, Cond.selects RX2 yX2_rowOf yX2_rowOf, Cond.initialized RX2, Cond.code yX2_rowOf cX2_rowOf 2 (some (.object "Pegrow$Row")), Cond.fieldLink RX2 11 "Pegrow" "rows" "[LPegrow$Row;", Cond.methodLink RX2 27 yX2_isName, Cond.static yX2_isName, Cond.code yX2_isName cX2_isName 1 (some .boolean), Cond.methodLink RX2 72 yX1_placeOf, Cond.instanceMethod yX1_placeOf, Cond.selects RX1 yX1_placeOf yX1_placeOf, Cond.initialized RX1, Cond.code yX1_placeOf cX1_placeOf 5 (some .int), Cond.fieldLink RX1 15 "Pegrow$Row" "length" "I", Cond.fieldLink RX1 9 "Pegrow$Row" "things" "[I", Cond.methodLink RX2 56 yX1_takeAt, Cond.instanceMethod yX1_takeAt, Cond.selects RX1 yX1_takeAt yX1_takeAt, Cond.code yX1_takeAt cX1_takeAt 4 (some .int), Cond.methodLink RX1 23 yX1_keepFirst, Cond.instanceMethod yX1_keepFirst, Cond.selects RX1 yX1_keepFirst yX1_keepFirst, Cond.code yX1_keepFirst cX1_keepFirst 2 none]
def wsX2_lose_r2 : List Cond := [Cond.fieldLink RX1 27 "Pegrow$Row" "changes" "I"]
def wsX2_lose : List Cond := .code yX2_lose cX2_lose 6 (some .int) :: ((wsX2_lose_r1 ++ wsX2_lose_r2) ++ wsX20 ++ wsX10)
def wsX2_all_r1 : List Cond := [Cond.methodLink RX2 23 yX2_rowOf, Cond.instanceMethod yX2_rowOf, Cond.selects RX2 yX2_rowOf yX2_rowOf, Cond.initialized RX2, Cond.code yX2_rowOf cX2_rowOf 2 (some (.object "Pegrow$Row")), Cond.fieldLink RX2 11 "Pegrow" "rows" "[LPegrow$Row;", Cond.methodLink RX2 31 yX1_hasRoomFor, Cond.instanceMethod yX1_hasRoomFor, Cond.selects RX1 yX1_hasRoomFor yX1_hasRoomFor, Cond.initialized RX1, Cond.code yX1_hasRoomFor cX1_hasRoomFor 2 (some .boolean), Cond.fieldLink RX1 15 "Pegrow$Row" "length" "I", Cond.methodLink RX2 69 yX1_canPutAt, Cond.instanceMethod yX1_canPutAt, Cond.selects RX1 yX1_canPutAt yX1_canPutAt, Cond.code yX1_canPutAt cX1_canPutAt 2 (some .boolean), Cond.methodLink RX2 62 yX2_refused, Cond.instanceMethod yX2_refused, Cond.selects RX2 yX2_refused yX2_refused, Cond.code yX2_refused cX2_refused 2 (some .int), Cond.fieldLink RX2 149 "Pegrow" "emptyRefusals" "I", Cond.fieldLink RX2 152 "Pegrow" "placeRefusals" "I", Cond.fieldLink RX2 155 "Pegrow" "stateRefusals" "I", Cond.fieldLink RX2 158 "Pegrow" "oldRefusals" "I"]
def wsX2_all_r2 : List Cond := [Cond.methodLink RX2 80 yX1_putAllAt, Cond.instanceMethod yX1_putAllAt, Cond.selects RX1 yX1_putAllAt yX1_putAllAt, Cond.code yX1_putAllAt cX1_putAllAt 4 none, Cond.fieldLink RX1 9 "Pegrow$Row" "things" "[I", Cond.methodLink RX1 19 yX1_openAt, Cond.instanceMethod yX1_openAt, Cond.selects RX1 yX1_openAt yX1_openAt, Cond.code yX1_openAt cX1_openAt 4 none, Cond.fieldLink RX1 27 "Pegrow$Row" "changes" "I"]
def wsX2_all : List Cond := .code yX2_all cX2_all 7 (some .int) :: ((wsX2_all_r1 ++ wsX2_all_r2) ++ wsX10 ++ wsX20)
def wsX2_clear : List Cond := .code yX2_clear cX2_clear 4 (some .int) :: ([.methodLink RX2 23 yX2_rowOf, .instanceMethod yX2_rowOf, .selects RX2 yX2_rowOf yX2_rowOf, .initialized RX2, .code yX2_rowOf cX2_rowOf 2 (some (.object "Pegrow$Row")), .fieldLink RX2 11 "Pegrow" "rows" "[LPegrow$Row;", .methodLink RX2 84 yX1_keepFirst, .instanceMethod yX1_keepFirst, .selects RX1 yX1_keepFirst yX1_keepFirst, .initialized RX1, .code yX1_keepFirst cX1_keepFirst 2 none, .fieldLink RX1 15 "Pegrow$Row" "length" "I", .fieldLink RX1 27 "Pegrow$Row" "changes" "I"] ++ wsX10 ++ wsX20)
def wsX2_copy : List Cond := .code yX2_copy cX2_copy 6 (some .int) :: ([.fieldLink RX2 17 "Pegrow" "pegs" "[LPegrow$Peg;", .methodLink RX2 23 yX2_rowOf, .instanceMethod yX2_rowOf, .selects RX2 yX2_rowOf yX2_rowOf, .initialized RX2, .code yX2_rowOf cX2_rowOf 2 (some (.object "Pegrow$Row")), .fieldLink RX2 11 "Pegrow" "rows" "[LPegrow$Row;", .methodLink RX2 88 yX0_leave, .instanceMethod yX0_leave, .selects RX0 yX0_leave yX0_leave, .initialized RX0, .code yX0_leave cX0_leave 2 none, .fieldLink RX0 15 "Pegrow$Peg" "row" "LPegrow$Row;", .methodLink RX2 92 yX1_becomeLike, .instanceMethod yX1_becomeLike, .selects RX1 yX1_becomeLike yX1_becomeLike, .initialized RX1, .code yX1_becomeLike cX1_becomeLike 3 none, .fieldLink RX1 15 "Pegrow$Row" "length" "I", .fieldLink RX1 9 "Pegrow$Row" "things" "[I"] ++ wsX20 ++ wsX10 ++ wsX00)
def wsX2_turn : List Cond := .code yX2_turn cX2_turn 3 (some .int) :: ([.methodLink RX2 23 yX2_rowOf, .instanceMethod yX2_rowOf, .selects RX2 yX2_rowOf yX2_rowOf, .initialized RX2, .code yX2_rowOf cX2_rowOf 2 (some (.object "Pegrow$Row")), .fieldLink RX2 11 "Pegrow" "rows" "[LPegrow$Row;", .methodLink RX2 95 yX1_turnRound, .instanceMethod yX1_turnRound, .selects RX1 yX1_turnRound yX1_turnRound, .initialized RX1, .code yX1_turnRound cX1_turnRound 2 none, .fieldLink RX1 15 "Pegrow$Row" "length" "I", .fieldLink RX1 9 "Pegrow$Row" "things" "[I", .methodLink RX1 30 yX1_layAt, .instanceMethod yX1_layAt, .selects RX1 yX1_layAt yX1_layAt, .code yX1_layAt cX1_layAt 4 (some .int)] ++ wsX10 ++ wsX20)
def wsX2_weave_r1 : List Cond := [Cond.methodLink RX2 23 yX2_rowOf, Cond.instanceMethod yX2_rowOf, Cond.selects RX2 yX2_rowOf yX2_rowOf, Cond.initialized RX2, Cond.code yX2_rowOf cX2_rowOf 2 (some (.object "Pegrow$Row")), Cond.fieldLink RX2 11 "Pegrow" "rows" "[LPegrow$Row;", Cond.methodLink RX2 31 yX1_hasRoomFor, Cond.instanceMethod yX1_hasRoomFor, Cond.selects RX1 yX1_hasRoomFor yX1_hasRoomFor, Cond.initialized RX1, Cond.code yX1_hasRoomFor cX1_hasRoomFor 2 (some .boolean), Cond.fieldLink RX1 15 "Pegrow$Row" "length" "I", Cond.methodLink RX2 98 yX1_weaveIn, Cond.instanceMethod yX1_weaveIn, Cond.selects RX1 yX1_weaveIn yX1_weaveIn, Cond.code yX1_weaveIn cX1_weaveIn 4 none, Cond.methodLink RX1 34 Lib.Math.min.name, Cond.static Lib.Math.min.name, Cond.initialized "java/lang/Math", Cond.code Lib.Math.min.name Lib.Math.min.code 2 (some .int), Cond.fieldLink RX1 9 "Pegrow$Row" "things" "[I", Cond.methodLink RX1 19 yX1_openAt, Cond.instanceMethod yX1_openAt, Cond.selects RX1 yX1_openAt yX1_openAt]
def wsX2_weave_r2 : List Cond := [Cond.code yX1_openAt cX1_openAt 4 none, Cond.fieldLink RX1 27 "Pegrow$Row" "changes" "I"]
def wsX2_weave : List Cond := .code yX2_weave cX2_weave 5 (some .int) :: ((wsX2_weave_r1 ++ wsX2_weave_r2) ++ wsX10 ++ wsX20)
def wsX2_prune : List Cond := .code yX2_prune cX2_prune 3 (some .int) :: ([.methodLink RX2 23 yX2_rowOf, .instanceMethod yX2_rowOf, .selects RX2 yX2_rowOf yX2_rowOf, .initialized RX2, .code yX2_rowOf cX2_rowOf 2 (some (.object "Pegrow$Row")), .fieldLink RX2 11 "Pegrow" "rows" "[LPegrow$Row;", .methodLink RX2 101 yX1_takeRepeats, .instanceMethod yX1_takeRepeats, .selects RX1 yX1_takeRepeats yX1_takeRepeats, .initialized RX1, .code yX1_takeRepeats cX1_takeRepeats 6 (some .int), .fieldLink RX1 15 "Pegrow$Row" "length" "I", .fieldLink RX1 9 "Pegrow$Row" "things" "[I", .methodLink RX1 23 yX1_keepFirst, .instanceMethod yX1_keepFirst, .selects RX1 yX1_keepFirst yX1_keepFirst, .code yX1_keepFirst cX1_keepFirst 2 none, .fieldLink RX1 27 "Pegrow$Row" "changes" "I"] ++ wsX20 ++ wsX10)
def wsX2_size : List Cond := .code yX2_size cX2_size 3 (some .int) :: ([.methodLink RX2 23 yX2_rowOf, .instanceMethod yX2_rowOf, .selects RX2 yX2_rowOf yX2_rowOf, .initialized RX2, .code yX2_rowOf cX2_rowOf 2 (some (.object "Pegrow$Row")), .fieldLink RX2 11 "Pegrow" "rows" "[LPegrow$Row;"] ++ wsX10 ++ wsX20)
def wsX2_sum : List Cond := .code yX2_sum cX2_sum 3 (some .int) :: ([.methodLink RX2 23 yX2_rowOf, .instanceMethod yX2_rowOf, .selects RX2 yX2_rowOf yX2_rowOf, .initialized RX2, .code yX2_rowOf cX2_rowOf 2 (some (.object "Pegrow$Row")), .fieldLink RX2 11 "Pegrow" "rows" "[LPegrow$Row;", .methodLink RX2 105 yX1_number, .instanceMethod yX1_number, .selects RX1 yX1_number yX1_number, .initialized RX1, .code yX1_number cX1_number 3 (some .int), .fieldLink RX1 15 "Pegrow$Row" "length" "I", .fieldLink RX1 9 "Pegrow$Row" "things" "[I", .constant RX1 39 (1000003)] ++ wsX20 ++ wsX10)
def wsX2_pegOf : List Cond := .code yX2_pegOf cX2_pegOf 2 (some (.object "Pegrow$Peg")) :: ([.fieldLink RX2 17 "Pegrow" "pegs" "[LPegrow$Peg;"] ++ wsX20)
def wsX2_peg_r1 : List Cond := [Cond.methodLink RX2 108 yX2_pegOf, Cond.instanceMethod yX2_pegOf, Cond.selects RX2 yX2_pegOf yX2_pegOf, Cond.initialized RX2, Cond.code yX2_pegOf cX2_pegOf 2 (some (.object "Pegrow$Peg")), Cond.fieldLink RX2 17 "Pegrow" "pegs" "[LPegrow$Peg;", Cond.methodLink RX2 23 yX2_rowOf, Cond.instanceMethod yX2_rowOf, Cond.selects RX2 yX2_rowOf yX2_rowOf, Cond.code yX2_rowOf cX2_rowOf 2 (some (.object "Pegrow$Row")), Cond.fieldLink RX2 11 "Pegrow" "rows" "[LPegrow$Row;", Cond.methodLink RX2 69 yX1_canPutAt, Cond.instanceMethod yX1_canPutAt, Cond.selects RX1 yX1_canPutAt yX1_canPutAt, Cond.initialized RX1, Cond.code yX1_canPutAt cX1_canPutAt 2 (some .boolean), Cond.fieldLink RX1 15 "Pegrow$Row" "length" "I", Cond.methodLink RX2 62 yX2_refused, Cond.instanceMethod yX2_refused, Cond.selects RX2 yX2_refused yX2_refused, Cond.code yX2_refused cX2_refused 2 (some .int), Cond.fieldLink RX2 149 "Pegrow" "emptyRefusals" "I", Cond.fieldLink RX2 152 "Pegrow" "placeRefusals" "I", Cond.fieldLink RX2 155 "Pegrow" "stateRefusals" "I"]
def wsX2_peg_r2 : List Cond := [Cond.fieldLink RX2 158 "Pegrow" "oldRefusals" "I", Cond.methodLink RX2 112 yX0_standIn, Cond.instanceMethod yX0_standIn, Cond.selects RX0 yX0_standIn yX0_standIn, Cond.initialized RX0, Cond.code yX0_standIn cX0_standIn 3 none, Cond.fieldLink RX0 15 "Pegrow$Peg" "row" "LPegrow$Row;", Cond.fieldLink RX0 19 "Pegrow$Peg" "ahead" "I", Cond.fieldLink RX0 27 "Pegrow$Peg" "seen" "I", Cond.fieldLink RX0 9 "Pegrow$Peg" "hand" "I", Cond.fieldLink RX0 30 "Pegrow$Peg" "missed" "Z"]
def wsX2_peg : List Cond := .code yX2_peg cX2_peg 6 (some .int) :: ((wsX2_peg_r1 ++ wsX2_peg_r2) ++ wsX20 ++ wsX10 ++ wsX00)
def wsX2_goOver_r1 : List Cond := [Cond.methodLink RX2 108 yX2_pegOf, Cond.instanceMethod yX2_pegOf, Cond.selects RX2 yX2_pegOf yX2_pegOf, Cond.initialized RX2, Cond.code yX2_pegOf cX2_pegOf 2 (some (.object "Pegrow$Peg")), Cond.fieldLink RX2 17 "Pegrow" "pegs" "[LPegrow$Peg;", Cond.methodLink RX2 62 yX2_refused, Cond.instanceMethod yX2_refused, Cond.selects RX2 yX2_refused yX2_refused, Cond.code yX2_refused cX2_refused 2 (some .int), Cond.fieldLink RX2 149 "Pegrow" "emptyRefusals" "I", Cond.fieldLink RX2 152 "Pegrow" "placeRefusals" "I", Cond.fieldLink RX2 155 "Pegrow" "stateRefusals" "I", Cond.fieldLink RX2 158 "Pegrow" "oldRefusals" "I", Cond.methodLink RX2 59 yX1_hasThingAt, Cond.instanceMethod yX1_hasThingAt, Cond.selects RX1 yX1_hasThingAt yX1_hasThingAt, Cond.initialized RX1, Cond.code yX1_hasThingAt cX1_hasThingAt 2 (some .boolean), Cond.fieldLink RX1 15 "Pegrow$Row" "length" "I", Cond.methodLink RX2 53 yX1_thingAt, Cond.instanceMethod yX1_thingAt, Cond.selects RX1 yX1_thingAt yX1_thingAt, Cond.code yX1_thingAt cX1_thingAt 2 (some .int)]
def wsX2_goOver_r2 : List Cond := [Cond.fieldLink RX1 9 "Pegrow$Row" "things" "[I", Cond.methodLink RX2 139 yX0_hold, Cond.instanceMethod yX0_hold, Cond.selects RX0 yX0_hold yX0_hold, Cond.initialized RX0, Cond.code yX0_hold cX0_hold 3 (some .int), Cond.fieldLink RX0 9 "Pegrow$Peg" "hand" "I", Cond.fieldLink RX0 34 "Pegrow$Peg" "held" "I", Cond.fieldLink RX0 30 "Pegrow$Peg" "missed" "Z"]
def wsX2_goOver : List Cond := .code yX2_goOver cX2_goOver 6 (some .int) :: ((wsX2_goOver_r1 ++ wsX2_goOver_r2) ++ wsX00 ++ wsX10 ++ wsX20)
def wsX2_next_r1 : List Cond := [Cond.methodLink RX2 116 yX2_goOver, Cond.instanceMethod yX2_goOver, Cond.selects RX2 yX2_goOver yX2_goOver, Cond.initialized RX2, Cond.code yX2_goOver cX2_goOver 6 (some .int), Cond.methodLink RX2 108 yX2_pegOf, Cond.instanceMethod yX2_pegOf, Cond.selects RX2 yX2_pegOf yX2_pegOf, Cond.code yX2_pegOf cX2_pegOf 2 (some (.object "Pegrow$Peg")), Cond.fieldLink RX2 17 "Pegrow" "pegs" "[LPegrow$Peg;", Cond.methodLink RX2 62 yX2_refused, Cond.instanceMethod yX2_refused, Cond.selects RX2 yX2_refused yX2_refused, Cond.code yX2_refused cX2_refused 2 (some .int), Cond.fieldLink RX2 149 "Pegrow" "emptyRefusals" "I", Cond.fieldLink RX2 152 "Pegrow" "placeRefusals" "I", Cond.fieldLink RX2 155 "Pegrow" "stateRefusals" "I", Cond.fieldLink RX2 158 "Pegrow" "oldRefusals" "I", Cond.methodLink RX2 59 yX1_hasThingAt, Cond.instanceMethod yX1_hasThingAt, Cond.selects RX1 yX1_hasThingAt yX1_hasThingAt, Cond.initialized RX1, Cond.code yX1_hasThingAt cX1_hasThingAt 2 (some .boolean), Cond.fieldLink RX1 15 "Pegrow$Row" "length" "I"]
def wsX2_next_r2 : List Cond := [Cond.methodLink RX2 53 yX1_thingAt, Cond.instanceMethod yX1_thingAt, Cond.selects RX1 yX1_thingAt yX1_thingAt, Cond.code yX1_thingAt cX1_thingAt 2 (some .int), Cond.fieldLink RX1 9 "Pegrow$Row" "things" "[I", Cond.methodLink RX2 139 yX0_hold, Cond.instanceMethod yX0_hold, Cond.selects RX0 yX0_hold yX0_hold, Cond.initialized RX0, Cond.code yX0_hold cX0_hold 3 (some .int), Cond.fieldLink RX0 9 "Pegrow$Peg" "hand" "I", Cond.fieldLink RX0 34 "Pegrow$Peg" "held" "I", Cond.fieldLink RX0 30 "Pegrow$Peg" "missed" "Z"]
def wsX2_next : List Cond := .code yX2_next cX2_next 2 (some .int) :: ((wsX2_next_r1 ++ wsX2_next_r2) ++ wsX00 ++ wsX10 ++ wsX20)
def wsX2_previous_r1 : List Cond := [Cond.methodLink RX2 116 yX2_goOver, Cond.instanceMethod yX2_goOver, Cond.selects RX2 yX2_goOver yX2_goOver, Cond.initialized RX2, Cond.code yX2_goOver cX2_goOver 6 (some .int), Cond.methodLink RX2 108 yX2_pegOf, Cond.instanceMethod yX2_pegOf, Cond.selects RX2 yX2_pegOf yX2_pegOf, Cond.code yX2_pegOf cX2_pegOf 2 (some (.object "Pegrow$Peg")), Cond.fieldLink RX2 17 "Pegrow" "pegs" "[LPegrow$Peg;", Cond.methodLink RX2 62 yX2_refused, Cond.instanceMethod yX2_refused, Cond.selects RX2 yX2_refused yX2_refused, Cond.code yX2_refused cX2_refused 2 (some .int), Cond.fieldLink RX2 149 "Pegrow" "emptyRefusals" "I", Cond.fieldLink RX2 152 "Pegrow" "placeRefusals" "I", Cond.fieldLink RX2 155 "Pegrow" "stateRefusals" "I", Cond.fieldLink RX2 158 "Pegrow" "oldRefusals" "I", Cond.methodLink RX2 59 yX1_hasThingAt, Cond.instanceMethod yX1_hasThingAt, Cond.selects RX1 yX1_hasThingAt yX1_hasThingAt, Cond.initialized RX1, Cond.code yX1_hasThingAt cX1_hasThingAt 2 (some .boolean), Cond.fieldLink RX1 15 "Pegrow$Row" "length" "I"]
def wsX2_previous_r2 : List Cond := [Cond.methodLink RX2 53 yX1_thingAt, Cond.instanceMethod yX1_thingAt, Cond.selects RX1 yX1_thingAt yX1_thingAt, Cond.code yX1_thingAt cX1_thingAt 2 (some .int), Cond.fieldLink RX1 9 "Pegrow$Row" "things" "[I", Cond.methodLink RX2 139 yX0_hold, Cond.instanceMethod yX0_hold, Cond.selects RX0 yX0_hold yX0_hold, Cond.initialized RX0, Cond.code yX0_hold cX0_hold 3 (some .int), Cond.fieldLink RX0 9 "Pegrow$Peg" "hand" "I", Cond.fieldLink RX0 34 "Pegrow$Peg" "held" "I", Cond.fieldLink RX0 30 "Pegrow$Peg" "missed" "Z"]
def wsX2_previous : List Cond := .code yX2_previous cX2_previous 2 (some .int) :: ((wsX2_previous_r1 ++ wsX2_previous_r2) ++ wsX00 ++ wsX10 ++ wsX20)
def wsX2_side : List Cond := .code yX2_side cX2_side 5 (some .int) :: ([.methodLink RX2 108 yX2_pegOf, .instanceMethod yX2_pegOf, .selects RX2 yX2_pegOf yX2_pegOf, .initialized RX2, .code yX2_pegOf cX2_pegOf 2 (some (.object "Pegrow$Peg")), .fieldLink RX2 17 "Pegrow" "pegs" "[LPegrow$Peg;", .methodLink RX2 76 yX2_oneIf, .static yX2_oneIf, .code yX2_oneIf cX2_oneIf 1 (some .int)] ++ wsX00 ++ wsX10 ++ wsX20)
def wsX2_handFault : List Cond := .code yX2_handFault cX2_handFault 3 (some .int) :: ([.methodLink RX2 62 yX2_refused, .instanceMethod yX2_refused, .selects RX2 yX2_refused yX2_refused, .initialized RX2, .code yX2_refused cX2_refused 2 (some .int), .fieldLink RX2 149 "Pegrow" "emptyRefusals" "I", .fieldLink RX2 152 "Pegrow" "placeRefusals" "I", .fieldLink RX2 155 "Pegrow" "stateRefusals" "I", .fieldLink RX2 158 "Pegrow" "oldRefusals" "I", .methodLink RX2 59 yX1_hasThingAt, .instanceMethod yX1_hasThingAt, .selects RX1 yX1_hasThingAt yX1_hasThingAt, .initialized RX1, .code yX1_hasThingAt cX1_hasThingAt 2 (some .boolean), .fieldLink RX1 15 "Pegrow$Row" "length" "I", .methodLink RX2 53 yX1_thingAt, .instanceMethod yX1_thingAt, .selects RX1 yX1_thingAt yX1_thingAt, .code yX1_thingAt cX1_thingAt 2 (some .int), .fieldLink RX1 9 "Pegrow$Row" "things" "[I"] ++ wsX00 ++ wsX10 ++ wsX20)
def wsX2_change_r1 : List Cond := [Cond.methodLink RX2 108 yX2_pegOf, Cond.instanceMethod yX2_pegOf, Cond.selects RX2 yX2_pegOf yX2_pegOf, Cond.initialized RX2, Cond.code yX2_pegOf cX2_pegOf 2 (some (.object "Pegrow$Peg")), Cond.fieldLink RX2 17 "Pegrow" "pegs" "[LPegrow$Peg;", Cond.methodLink RX2 27 yX2_isName, Cond.static yX2_isName, Cond.code yX2_isName cX2_isName 1 (some .boolean), Cond.methodLink RX2 132 yX2_handFault, Cond.instanceMethod yX2_handFault, Cond.selects RX2 yX2_handFault yX2_handFault, Cond.code yX2_handFault cX2_handFault 3 (some .int), Cond.methodLink RX2 62 yX2_refused, Cond.instanceMethod yX2_refused, Cond.selects RX2 yX2_refused yX2_refused, Cond.code yX2_refused cX2_refused 2 (some .int), Cond.fieldLink RX2 149 "Pegrow" "emptyRefusals" "I", Cond.fieldLink RX2 152 "Pegrow" "placeRefusals" "I", Cond.fieldLink RX2 155 "Pegrow" "stateRefusals" "I", Cond.fieldLink RX2 158 "Pegrow" "oldRefusals" "I", Cond.methodLink RX2 59 yX1_hasThingAt, Cond.instanceMethod yX1_hasThingAt, Cond.selects RX1 yX1_hasThingAt yX1_hasThingAt]
def wsX2_change_r2 : List Cond := [Cond.initialized RX1, Cond.code yX1_hasThingAt cX1_hasThingAt 2 (some .boolean), Cond.fieldLink RX1 15 "Pegrow$Row" "length" "I", Cond.methodLink RX2 53 yX1_thingAt, Cond.instanceMethod yX1_thingAt, Cond.selects RX1 yX1_thingAt yX1_thingAt, Cond.code yX1_thingAt cX1_thingAt 2 (some .int), Cond.fieldLink RX1 9 "Pegrow$Row" "things" "[I", Cond.methodLink RX2 38 yX2_newThing, Cond.instanceMethod yX2_newThing, Cond.selects RX2 yX2_newThing yX2_newThing, Cond.code yX2_newThing cX2_newThing 3 (some .int), Cond.fieldLink RX2 146 "Pegrow" "made" "I", Cond.methodLink RX2 139 yX0_hold, Cond.instanceMethod yX0_hold, Cond.selects RX0 yX0_hold yX0_hold, Cond.initialized RX0, Cond.code yX0_hold cX0_hold 3 (some .int), Cond.fieldLink RX0 9 "Pegrow$Peg" "hand" "I", Cond.fieldLink RX0 34 "Pegrow$Peg" "held" "I", Cond.fieldLink RX0 30 "Pegrow$Peg" "missed" "Z", Cond.methodLink RX2 65 yX1_layAt, Cond.instanceMethod yX1_layAt, Cond.selects RX1 yX1_layAt yX1_layAt]
def wsX2_change_r3 : List Cond := [Cond.code yX1_layAt cX1_layAt 4 (some .int)]
def wsX2_change : List Cond := .code yX2_change cX2_change 7 (some .int) :: ((wsX2_change_r1 ++ (wsX2_change_r2 ++ wsX2_change_r3)) ++ wsX00 ++ wsX20 ++ wsX10)
def wsX2_add_r1 : List Cond := [Cond.methodLink RX2 108 yX2_pegOf, Cond.instanceMethod yX2_pegOf, Cond.selects RX2 yX2_pegOf yX2_pegOf, Cond.initialized RX2, Cond.code yX2_pegOf cX2_pegOf 2 (some (.object "Pegrow$Peg")), Cond.fieldLink RX2 17 "Pegrow" "pegs" "[LPegrow$Peg;", Cond.methodLink RX2 27 yX2_isName, Cond.static yX2_isName, Cond.code yX2_isName cX2_isName 1 (some .boolean), Cond.methodLink RX2 31 yX1_hasRoomFor, Cond.instanceMethod yX1_hasRoomFor, Cond.selects RX1 yX1_hasRoomFor yX1_hasRoomFor, Cond.initialized RX1, Cond.code yX1_hasRoomFor cX1_hasRoomFor 2 (some .boolean), Cond.fieldLink RX1 15 "Pegrow$Row" "length" "I", Cond.methodLink RX2 62 yX2_refused, Cond.instanceMethod yX2_refused, Cond.selects RX2 yX2_refused yX2_refused, Cond.code yX2_refused cX2_refused 2 (some .int), Cond.fieldLink RX2 149 "Pegrow" "emptyRefusals" "I", Cond.fieldLink RX2 152 "Pegrow" "placeRefusals" "I", Cond.fieldLink RX2 155 "Pegrow" "stateRefusals" "I", Cond.fieldLink RX2 158 "Pegrow" "oldRefusals" "I", Cond.methodLink RX2 38 yX2_newThing]
def wsX2_add_r2 : List Cond := [Cond.instanceMethod yX2_newThing, Cond.selects RX2 yX2_newThing yX2_newThing, Cond.code yX2_newThing cX2_newThing 3 (some .int), Cond.fieldLink RX2 146 "Pegrow" "made" "I", Cond.methodLink RX2 42 yX1_putAt, Cond.instanceMethod yX1_putAt, Cond.selects RX1 yX1_putAt yX1_putAt, Cond.code yX1_putAt cX1_putAt 3 none, Cond.fieldLink RX1 9 "Pegrow$Row" "things" "[I", Cond.methodLink RX1 19 yX1_openAt, Cond.instanceMethod yX1_openAt, Cond.selects RX1 yX1_openAt yX1_openAt, Cond.code yX1_openAt cX1_openAt 4 none, Cond.fieldLink RX1 27 "Pegrow$Row" "changes" "I", Cond.methodLink RX2 112 yX0_standIn, Cond.instanceMethod yX0_standIn, Cond.selects RX0 yX0_standIn yX0_standIn, Cond.initialized RX0, Cond.code yX0_standIn cX0_standIn 3 none, Cond.fieldLink RX0 15 "Pegrow$Peg" "row" "LPegrow$Row;", Cond.fieldLink RX0 19 "Pegrow$Peg" "ahead" "I", Cond.fieldLink RX0 27 "Pegrow$Peg" "seen" "I", Cond.fieldLink RX0 9 "Pegrow$Peg" "hand" "I", Cond.fieldLink RX0 30 "Pegrow$Peg" "missed" "Z"]
def wsX2_add : List Cond := .code yX2_add cX2_add 5 (some .int) :: ((wsX2_add_r1 ++ wsX2_add_r2) ++ wsX00 ++ wsX10 ++ wsX20)
def wsX2_remove_r1 : List Cond := [Cond.methodLink RX2 108 yX2_pegOf, Cond.instanceMethod yX2_pegOf, Cond.selects RX2 yX2_pegOf yX2_pegOf, Cond.initialized RX2, Cond.code yX2_pegOf cX2_pegOf 2 (some (.object "Pegrow$Peg")), Cond.fieldLink RX2 17 "Pegrow" "pegs" "[LPegrow$Peg;", Cond.methodLink RX2 132 yX2_handFault, Cond.instanceMethod yX2_handFault, Cond.selects RX2 yX2_handFault yX2_handFault, Cond.code yX2_handFault cX2_handFault 3 (some .int), Cond.methodLink RX2 62 yX2_refused, Cond.instanceMethod yX2_refused, Cond.selects RX2 yX2_refused yX2_refused, Cond.code yX2_refused cX2_refused 2 (some .int), Cond.fieldLink RX2 149 "Pegrow" "emptyRefusals" "I", Cond.fieldLink RX2 152 "Pegrow" "placeRefusals" "I", Cond.fieldLink RX2 155 "Pegrow" "stateRefusals" "I", Cond.fieldLink RX2 158 "Pegrow" "oldRefusals" "I", Cond.methodLink RX2 59 yX1_hasThingAt, Cond.instanceMethod yX1_hasThingAt, Cond.selects RX1 yX1_hasThingAt yX1_hasThingAt, Cond.initialized RX1, Cond.code yX1_hasThingAt cX1_hasThingAt 2 (some .boolean), Cond.fieldLink RX1 15 "Pegrow$Row" "length" "I"]
def wsX2_remove_r2 : List Cond := [Cond.methodLink RX2 53 yX1_thingAt, Cond.instanceMethod yX1_thingAt, Cond.selects RX1 yX1_thingAt yX1_thingAt, Cond.code yX1_thingAt cX1_thingAt 2 (some .int), Cond.fieldLink RX1 9 "Pegrow$Row" "things" "[I", Cond.methodLink RX2 56 yX1_takeAt, Cond.instanceMethod yX1_takeAt, Cond.selects RX1 yX1_takeAt yX1_takeAt, Cond.code yX1_takeAt cX1_takeAt 4 (some .int), Cond.methodLink RX1 23 yX1_keepFirst, Cond.instanceMethod yX1_keepFirst, Cond.selects RX1 yX1_keepFirst yX1_keepFirst, Cond.code yX1_keepFirst cX1_keepFirst 2 none, Cond.fieldLink RX1 27 "Pegrow$Row" "changes" "I", Cond.methodLink RX2 112 yX0_standIn, Cond.instanceMethod yX0_standIn, Cond.selects RX0 yX0_standIn yX0_standIn, Cond.initialized RX0, Cond.code yX0_standIn cX0_standIn 3 none, Cond.fieldLink RX0 15 "Pegrow$Peg" "row" "LPegrow$Row;", Cond.fieldLink RX0 19 "Pegrow$Peg" "ahead" "I", Cond.fieldLink RX0 27 "Pegrow$Peg" "seen" "I", Cond.fieldLink RX0 9 "Pegrow$Peg" "hand" "I", Cond.fieldLink RX0 30 "Pegrow$Peg" "missed" "Z"]
def wsX2_remove : List Cond := .code yX2_remove cX2_remove 6 (some .int) :: ((wsX2_remove_r1 ++ wsX2_remove_r2) ++ wsX00 ++ wsX20 ++ wsX10)
def wsX2_old : List Cond := .code yX2_old cX2_old 3 (some .int) :: ([.methodLink RX2 108 yX2_pegOf, .instanceMethod yX2_pegOf, .selects RX2 yX2_pegOf yX2_pegOf, .initialized RX2, .code yX2_pegOf cX2_pegOf 2 (some (.object "Pegrow$Peg")), .fieldLink RX2 17 "Pegrow" "pegs" "[LPegrow$Peg;", .methodLink RX2 142 yX0_isOld, .instanceMethod yX0_isOld, .selects RX0 yX0_isOld yX0_isOld, .initialized RX0, .code yX0_isOld cX0_isOld 1 (some .boolean), .fieldLink RX0 15 "Pegrow$Peg" "row" "LPegrow$Row;", .fieldLink RX0 27 "Pegrow$Peg" "seen" "I", .methodLink RX2 76 yX2_oneIf, .static yX2_oneIf, .code yX2_oneIf cX2_oneIf 1 (some .int)] ++ wsX00 ++ wsX20 ++ wsX10)
def wsX2_standingPegs : List Cond := .code yX2_standingPegs cX2_standingPegs 3 (some .int) :: ([.fieldLink RX2 17 "Pegrow" "pegs" "[LPegrow$Peg;"] ++ wsX20 ++ wsX00)
def wsX2_oldPegs : List Cond := .code yX2_oldPegs cX2_oldPegs 3 (some .int) :: ([.fieldLink RX2 17 "Pegrow" "pegs" "[LPegrow$Peg;", .methodLink RX2 142 yX0_isOld, .instanceMethod yX0_isOld, .selects RX0 yX0_isOld yX0_isOld, .initialized RX0, .code yX0_isOld cX0_isOld 1 (some .boolean), .fieldLink RX0 15 "Pegrow$Peg" "row" "LPegrow$Row;", .fieldLink RX0 27 "Pegrow$Peg" "seen" "I"] ++ wsX20 ++ wsX00 ++ wsX10)
def wsX2_count : List Cond := .code yX2_count cX2_count 2 (some .int) :: ([.fieldLink RX2 146 "Pegrow" "made" "I", .fieldLink RX2 149 "Pegrow" "emptyRefusals" "I", .fieldLink RX2 152 "Pegrow" "placeRefusals" "I", .fieldLink RX2 155 "Pegrow" "stateRefusals" "I", .fieldLink RX2 158 "Pegrow" "oldRefusals" "I", .methodLink RX2 161 yX2_standingPegs, .instanceMethod yX2_standingPegs, .selects RX2 yX2_standingPegs yX2_standingPegs, .initialized RX2, .code yX2_standingPegs cX2_standingPegs 3 (some .int), .fieldLink RX2 17 "Pegrow" "pegs" "[LPegrow$Peg;", .methodLink RX2 164 yX2_oldPegs, .instanceMethod yX2_oldPegs, .selects RX2 yX2_oldPegs yX2_oldPegs, .code yX2_oldPegs cX2_oldPegs 3 (some .int), .methodLink RX2 142 yX0_isOld, .instanceMethod yX0_isOld, .selects RX0 yX0_isOld yX0_isOld, .initialized RX0, .code yX0_isOld cX0_isOld 1 (some .boolean), .fieldLink RX0 15 "Pegrow$Peg" "row" "LPegrow$Row;", .fieldLink RX0 27 "Pegrow$Peg" "seen" "I"] ++ wsX20 ++ wsX00 ++ wsX10)
def wsX3_init : List Cond := .code yX3_init cX3_init 2 none :: ([.methodLink RX3 1 objectInit, .instanceMethod objectInit, .code objectInit ⟨#[0xb1]⟩ 1 none, .arrayClass .int, .fieldLink RX3 7 "PegrowModel" "things" "[I", .fieldLink RX3 13 "PegrowModel" "sizes" "[I", .fieldLink RX3 16 "PegrowModel" "refusals" "[I", .fieldLink RX3 19 "PegrowModel" "rowOf" "[I", .fieldLink RX3 22 "PegrowModel" "placeOf" "[I", .fieldLink RX3 25 "PegrowModel" "hand" "[I", .fieldLink RX3 28 "PegrowModel" "handAt" "[I", .fieldLink RX3 31 "PegrowModel" "isLost" "[I", .fieldLink RX3 34 "PegrowModel" "isOld" "[I", .fieldLink RX3 37 "PegrowModel" "aside" "[I"] ++ wsX30)
def wsX3_in : List Cond := .code yX3_in cX3_in 3 (some .boolean) :: ([])
def wsX3_isRow : List Cond := .code yX3_isRow cX3_isRow 1 (some .boolean) :: ([.methodLink RX3 40 yX3_in, .static yX3_in, .initialized RX3, .code yX3_in cX3_in 3 (some .boolean)])
def wsX3_isName : List Cond := .code yX3_isName cX3_isName 1 (some .boolean) :: ([.methodLink RX3 40 yX3_in, .static yX3_in, .initialized RX3, .code yX3_in cX3_in 3 (some .boolean)])
def wsX3_isPeg : List Cond := .code yX3_isPeg cX3_isPeg 1 (some .boolean) :: ([.methodLink RX3 40 yX3_in, .static yX3_in, .initialized RX3, .code yX3_in cX3_in 3 (some .boolean)])
def wsX3_refuse : List Cond := .code yX3_refuse cX3_refuse 3 (some .int) :: ([.fieldLink RX3 16 "PegrowModel" "refusals" "[I"] ++ wsX30)
def wsX3_make : List Cond := .code yX3_make cX3_make 2 (some .int) :: ([.fieldLink RX3 44 "PegrowModel" "made" "I"] ++ wsX30)
def wsX3_thing : List Cond := .code yX3_thing cX3_thing 3 (some .int) :: ([.fieldLink RX3 7 "PegrowModel" "things" "[I"] ++ wsX30)
def wsX3_age : List Cond := .code yX3_age cX3_age 4 none :: ([.fieldLink RX3 34 "PegrowModel" "isOld" "[I", .fieldLink RX3 19 "PegrowModel" "rowOf" "[I"] ++ wsX30)
def wsX3_open : List Cond := .code yX3_open cX3_open 5 none :: ([.fieldLink RX3 13 "PegrowModel" "sizes" "[I", .fieldLink RX3 7 "PegrowModel" "things" "[I", .methodLink RX3 48 yX3_thing, .instanceMethod yX3_thing, .selects RX3 yX3_thing yX3_thing, .initialized RX3, .code yX3_thing cX3_thing 3 (some .int)] ++ wsX30)
def wsX3_close : List Cond := .code yX3_close cX3_close 5 (some .int) :: ([.fieldLink RX3 13 "PegrowModel" "sizes" "[I", .fieldLink RX3 7 "PegrowModel" "things" "[I", .methodLink RX3 48 yX3_thing, .instanceMethod yX3_thing, .selects RX3 yX3_thing yX3_thing, .initialized RX3, .code yX3_thing cX3_thing 3 (some .int)] ++ wsX30)
def wsX3_placeBy : List Cond := .code yX3_placeBy cX3_placeBy 6 (some .int) :: ([.fieldLink RX3 13 "PegrowModel" "sizes" "[I", .methodLink RX3 48 yX3_thing, .instanceMethod yX3_thing, .selects RX3 yX3_thing yX3_thing, .initialized RX3, .code yX3_thing cX3_thing 3 (some .int), .fieldLink RX3 7 "PegrowModel" "things" "[I"] ++ wsX30)
def wsX3_put_r1 : List Cond := [Cond.fieldLink RX3 13 "PegrowModel" "sizes" "[I", Cond.methodLink RX3 52 yX3_isRow, Cond.static yX3_isRow, Cond.initialized RX3, Cond.code yX3_isRow cX3_isRow 1 (some .boolean), Cond.methodLink RX3 40 yX3_in, Cond.static yX3_in, Cond.code yX3_in cX3_in 3 (some .boolean), Cond.methodLink RX3 56 yX3_isName, Cond.static yX3_isName, Cond.code yX3_isName cX3_isName 1 (some .boolean), Cond.methodLink RX3 59 yX3_make, Cond.instanceMethod yX3_make, Cond.selects RX3 yX3_make yX3_make, Cond.code yX3_make cX3_make 2 (some .int), Cond.fieldLink RX3 44 "PegrowModel" "made" "I", Cond.methodLink RX3 63 yX3_open, Cond.instanceMethod yX3_open, Cond.selects RX3 yX3_open yX3_open, Cond.code yX3_open cX3_open 5 none, Cond.fieldLink RX3 7 "PegrowModel" "things" "[I", Cond.methodLink RX3 48 yX3_thing, Cond.instanceMethod yX3_thing, Cond.selects RX3 yX3_thing yX3_thing]
def wsX3_put_r2 : List Cond := [Cond.code yX3_thing cX3_thing 3 (some .int), Cond.methodLink RX3 67 yX3_age, Cond.instanceMethod yX3_age, Cond.selects RX3 yX3_age yX3_age, Cond.code yX3_age cX3_age 4 none, Cond.fieldLink RX3 34 "PegrowModel" "isOld" "[I", Cond.fieldLink RX3 19 "PegrowModel" "rowOf" "[I"]
def wsX3_put : List Cond := .code yX3_put cX3_put 5 (some .int) :: ((wsX3_put_r1 ++ wsX3_put_r2) ++ wsX30)
def wsX3_end : List Cond := .code yX3_end cX3_end 4 (some .int) :: ([.fieldLink RX3 13 "PegrowModel" "sizes" "[I", .methodLink RX3 52 yX3_isRow, .static yX3_isRow, .initialized RX3, .code yX3_isRow cX3_isRow 1 (some .boolean), .methodLink RX3 40 yX3_in, .static yX3_in, .code yX3_in cX3_in 3 (some .boolean), .methodLink RX3 71 yX3_refuse, .instanceMethod yX3_refuse, .selects RX3 yX3_refuse yX3_refuse, .code yX3_refuse cX3_refuse 3 (some .int), .fieldLink RX3 16 "PegrowModel" "refusals" "[I", .methodLink RX3 48 yX3_thing, .instanceMethod yX3_thing, .selects RX3 yX3_thing yX3_thing, .code yX3_thing cX3_thing 3 (some .int), .fieldLink RX3 7 "PegrowModel" "things" "[I"] ++ wsX30)
def wsX3_take_r1 : List Cond := [Cond.fieldLink RX3 13 "PegrowModel" "sizes" "[I", Cond.methodLink RX3 52 yX3_isRow, Cond.static yX3_isRow, Cond.initialized RX3, Cond.code yX3_isRow cX3_isRow 1 (some .boolean), Cond.methodLink RX3 40 yX3_in, Cond.static yX3_in, Cond.code yX3_in cX3_in 3 (some .boolean), Cond.methodLink RX3 71 yX3_refuse, Cond.instanceMethod yX3_refuse, Cond.selects RX3 yX3_refuse yX3_refuse, Cond.code yX3_refuse cX3_refuse 3 (some .int), Cond.fieldLink RX3 16 "PegrowModel" "refusals" "[I", Cond.methodLink RX3 67 yX3_age, Cond.instanceMethod yX3_age, Cond.selects RX3 yX3_age yX3_age, Cond.code yX3_age cX3_age 4 none, Cond.fieldLink RX3 34 "PegrowModel" "isOld" "[I", Cond.fieldLink RX3 19 "PegrowModel" "rowOf" "[I", Cond.methodLink RX3 74 yX3_close, Cond.instanceMethod yX3_close, Cond.selects RX3 yX3_close yX3_close, Cond.code yX3_close cX3_close 5 (some .int), Cond.fieldLink RX3 7 "PegrowModel" "things" "[I"]
def wsX3_take_r2 : List Cond := [Cond.methodLink RX3 48 yX3_thing, Cond.instanceMethod yX3_thing, Cond.selects RX3 yX3_thing yX3_thing, Cond.code yX3_thing cX3_thing 3 (some .int)]
def wsX3_take : List Cond := .code yX3_take cX3_take 4 (some .int) :: ((wsX3_take_r1 ++ wsX3_take_r2) ++ wsX30)
def wsX3_at : List Cond := .code yX3_at cX3_at 3 (some .int) :: ([.fieldLink RX3 13 "PegrowModel" "sizes" "[I", .methodLink RX3 52 yX3_isRow, .static yX3_isRow, .initialized RX3, .code yX3_isRow cX3_isRow 1 (some .boolean), .methodLink RX3 40 yX3_in, .static yX3_in, .code yX3_in cX3_in 3 (some .boolean), .methodLink RX3 48 yX3_thing, .instanceMethod yX3_thing, .selects RX3 yX3_thing yX3_thing, .code yX3_thing cX3_thing 3 (some .int), .fieldLink RX3 7 "PegrowModel" "things" "[I", .methodLink RX3 71 yX3_refuse, .instanceMethod yX3_refuse, .selects RX3 yX3_refuse yX3_refuse, .code yX3_refuse cX3_refuse 3 (some .int), .fieldLink RX3 16 "PegrowModel" "refusals" "[I"] ++ wsX30)
def wsX3_lay_r1 : List Cond := [Cond.fieldLink RX3 13 "PegrowModel" "sizes" "[I", Cond.fieldLink RX3 7 "PegrowModel" "things" "[I", Cond.methodLink RX3 52 yX3_isRow, Cond.static yX3_isRow, Cond.initialized RX3, Cond.code yX3_isRow cX3_isRow 1 (some .boolean), Cond.methodLink RX3 40 yX3_in, Cond.static yX3_in, Cond.code yX3_in cX3_in 3 (some .boolean), Cond.methodLink RX3 56 yX3_isName, Cond.static yX3_isName, Cond.code yX3_isName cX3_isName 1 (some .boolean), Cond.methodLink RX3 71 yX3_refuse, Cond.instanceMethod yX3_refuse, Cond.selects RX3 yX3_refuse yX3_refuse, Cond.code yX3_refuse cX3_refuse 3 (some .int), Cond.fieldLink RX3 16 "PegrowModel" "refusals" "[I", Cond.methodLink RX3 48 yX3_thing, Cond.instanceMethod yX3_thing, Cond.selects RX3 yX3_thing yX3_thing, Cond.code yX3_thing cX3_thing 3 (some .int), Cond.methodLink RX3 59 yX3_make, Cond.instanceMethod yX3_make, Cond.selects RX3 yX3_make yX3_make]
def wsX3_lay_r2 : List Cond := [Cond.code yX3_make cX3_make 2 (some .int), Cond.fieldLink RX3 44 "PegrowModel" "made" "I"]
def wsX3_lay : List Cond := .code yX3_lay cX3_lay 5 (some .int) :: ((wsX3_lay_r1 ++ wsX3_lay_r2) ++ wsX30)
def wsX3_insert_r1 : List Cond := [Cond.fieldLink RX3 13 "PegrowModel" "sizes" "[I", Cond.methodLink RX3 52 yX3_isRow, Cond.static yX3_isRow, Cond.initialized RX3, Cond.code yX3_isRow cX3_isRow 1 (some .boolean), Cond.methodLink RX3 40 yX3_in, Cond.static yX3_in, Cond.code yX3_in cX3_in 3 (some .boolean), Cond.methodLink RX3 56 yX3_isName, Cond.static yX3_isName, Cond.code yX3_isName cX3_isName 1 (some .boolean), Cond.methodLink RX3 71 yX3_refuse, Cond.instanceMethod yX3_refuse, Cond.selects RX3 yX3_refuse yX3_refuse, Cond.code yX3_refuse cX3_refuse 3 (some .int), Cond.fieldLink RX3 16 "PegrowModel" "refusals" "[I", Cond.methodLink RX3 59 yX3_make, Cond.instanceMethod yX3_make, Cond.selects RX3 yX3_make yX3_make, Cond.code yX3_make cX3_make 2 (some .int), Cond.fieldLink RX3 44 "PegrowModel" "made" "I", Cond.methodLink RX3 63 yX3_open, Cond.instanceMethod yX3_open, Cond.selects RX3 yX3_open yX3_open]
def wsX3_insert_r2 : List Cond := [Cond.code yX3_open cX3_open 5 none, Cond.fieldLink RX3 7 "PegrowModel" "things" "[I", Cond.methodLink RX3 48 yX3_thing, Cond.instanceMethod yX3_thing, Cond.selects RX3 yX3_thing yX3_thing, Cond.code yX3_thing cX3_thing 3 (some .int), Cond.methodLink RX3 67 yX3_age, Cond.instanceMethod yX3_age, Cond.selects RX3 yX3_age yX3_age, Cond.code yX3_age cX3_age 4 none, Cond.fieldLink RX3 34 "PegrowModel" "isOld" "[I", Cond.fieldLink RX3 19 "PegrowModel" "rowOf" "[I"]
def wsX3_insert : List Cond := .code yX3_insert cX3_insert 4 (some .int) :: ((wsX3_insert_r1 ++ wsX3_insert_r2) ++ wsX30)
def wsX3_drop_r1 : List Cond := [Cond.fieldLink RX3 13 "PegrowModel" "sizes" "[I", Cond.methodLink RX3 52 yX3_isRow, Cond.static yX3_isRow, Cond.initialized RX3, Cond.code yX3_isRow cX3_isRow 1 (some .boolean), Cond.methodLink RX3 40 yX3_in, Cond.static yX3_in, Cond.code yX3_in cX3_in 3 (some .boolean), Cond.methodLink RX3 71 yX3_refuse, Cond.instanceMethod yX3_refuse, Cond.selects RX3 yX3_refuse yX3_refuse, Cond.code yX3_refuse cX3_refuse 3 (some .int), Cond.fieldLink RX3 16 "PegrowModel" "refusals" "[I", Cond.methodLink RX3 67 yX3_age, Cond.instanceMethod yX3_age, Cond.selects RX3 yX3_age yX3_age, Cond.code yX3_age cX3_age 4 none, Cond.fieldLink RX3 34 "PegrowModel" "isOld" "[I", Cond.fieldLink RX3 19 "PegrowModel" "rowOf" "[I", Cond.methodLink RX3 74 yX3_close, Cond.instanceMethod yX3_close, Cond.selects RX3 yX3_close yX3_close, Cond.code yX3_close cX3_close 5 (some .int), Cond.fieldLink RX3 7 "PegrowModel" "things" "[I"]
def wsX3_drop_r2 : List Cond := [Cond.methodLink RX3 48 yX3_thing, Cond.instanceMethod yX3_thing, Cond.selects RX3 yX3_thing yX3_thing, Cond.code yX3_thing cX3_thing 3 (some .int)]
def wsX3_drop : List Cond := .code yX3_drop cX3_drop 3 (some .int) :: ((wsX3_drop_r1 ++ wsX3_drop_r2) ++ wsX30)
def wsX3_find : List Cond := .code yX3_find cX3_find 5 (some .int) :: ([.methodLink RX3 52 yX3_isRow, .static yX3_isRow, .initialized RX3, .code yX3_isRow cX3_isRow 1 (some .boolean), .methodLink RX3 40 yX3_in, .static yX3_in, .code yX3_in cX3_in 3 (some .boolean), .methodLink RX3 56 yX3_isName, .static yX3_isName, .code yX3_isName cX3_isName 1 (some .boolean), .methodLink RX3 77 yX3_placeBy, .instanceMethod yX3_placeBy, .selects RX3 yX3_placeBy yX3_placeBy, .code yX3_placeBy cX3_placeBy 6 (some .int), .fieldLink RX3 13 "PegrowModel" "sizes" "[I", .methodLink RX3 48 yX3_thing, .instanceMethod yX3_thing, .selects RX3 yX3_thing yX3_thing, .code yX3_thing cX3_thing 3 (some .int), .fieldLink RX3 7 "PegrowModel" "things" "[I"] ++ wsX30)
def wsX3_has : List Cond := .code yX3_has cX3_has 3 (some .int) :: ([.methodLink RX3 52 yX3_isRow, .static yX3_isRow, .initialized RX3, .code yX3_isRow cX3_isRow 1 (some .boolean), .methodLink RX3 40 yX3_in, .static yX3_in, .code yX3_in cX3_in 3 (some .boolean), .methodLink RX3 56 yX3_isName, .static yX3_isName, .code yX3_isName cX3_isName 1 (some .boolean), .methodLink RX3 77 yX3_placeBy, .instanceMethod yX3_placeBy, .selects RX3 yX3_placeBy yX3_placeBy, .code yX3_placeBy cX3_placeBy 6 (some .int), .fieldLink RX3 13 "PegrowModel" "sizes" "[I", .methodLink RX3 48 yX3_thing, .instanceMethod yX3_thing, .selects RX3 yX3_thing yX3_thing, .code yX3_thing cX3_thing 3 (some .int), .fieldLink RX3 7 "PegrowModel" "things" "[I"] ++ wsX30)
def wsX3_lose_r1 : List Cond := [Cond.methodLink RX3 52 yX3_isRow, Cond.static yX3_isRow, Cond.initialized RX3, Cond.code yX3_isRow cX3_isRow 1 (some .boolean), Cond.methodLink RX3 40 yX3_in, Cond.static yX3_in, Cond.code yX3_in cX3_in 3 (some .boolean), Cond.methodLink RX3 56 yX3_isName, Cond.static yX3_isName, Cond.code yX3_isName cX3_isName 1 (some .boolean), Cond.methodLink RX3 77 yX3_placeBy, Cond.instanceMethod yX3_placeBy, Cond.selects RX3 yX3_placeBy yX3_placeBy, Cond.code yX3_placeBy cX3_placeBy 6 (some .int), Cond.fieldLink RX3 13 "PegrowModel" "sizes" "[I", Cond.methodLink RX3 48 yX3_thing, Cond.instanceMethod yX3_thing, Cond.selects RX3 yX3_thing yX3_thing, Cond.code yX3_thing cX3_thing 3 (some .int), Cond.fieldLink RX3 7 "PegrowModel" "things" "[I", Cond.methodLink RX3 74 yX3_close, Cond.instanceMethod yX3_close, Cond.selects RX3 yX3_close yX3_close, Cond.code yX3_close cX3_close 5 (some .int)]
def wsX3_lose_r2 : List Cond := [Cond.methodLink RX3 67 yX3_age, Cond.instanceMethod yX3_age, Cond.selects RX3 yX3_age yX3_age, Cond.code yX3_age cX3_age 4 none, Cond.fieldLink RX3 34 "PegrowModel" "isOld" "[I", Cond.fieldLink RX3 19 "PegrowModel" "rowOf" "[I"]
def wsX3_lose : List Cond := .code yX3_lose cX3_lose 6 (some .int) :: ((wsX3_lose_r1 ++ wsX3_lose_r2) ++ wsX30)
def wsX3_areTwo : List Cond := .code yX3_areTwo cX3_areTwo 2 (some .boolean) :: ([.methodLink RX3 52 yX3_isRow, .static yX3_isRow, .initialized RX3, .code yX3_isRow cX3_isRow 1 (some .boolean), .methodLink RX3 40 yX3_in, .static yX3_in, .code yX3_in cX3_in 3 (some .boolean)])
def wsX3_all_r1 : List Cond := [Cond.fieldLink RX3 13 "PegrowModel" "sizes" "[I", Cond.methodLink RX3 81 yX3_areTwo, Cond.static yX3_areTwo, Cond.initialized RX3, Cond.code yX3_areTwo cX3_areTwo 2 (some .boolean), Cond.methodLink RX3 52 yX3_isRow, Cond.static yX3_isRow, Cond.code yX3_isRow cX3_isRow 1 (some .boolean), Cond.methodLink RX3 40 yX3_in, Cond.static yX3_in, Cond.code yX3_in cX3_in 3 (some .boolean), Cond.methodLink RX3 71 yX3_refuse, Cond.instanceMethod yX3_refuse, Cond.selects RX3 yX3_refuse yX3_refuse, Cond.code yX3_refuse cX3_refuse 3 (some .int), Cond.fieldLink RX3 16 "PegrowModel" "refusals" "[I", Cond.methodLink RX3 48 yX3_thing, Cond.instanceMethod yX3_thing, Cond.selects RX3 yX3_thing yX3_thing, Cond.code yX3_thing cX3_thing 3 (some .int), Cond.fieldLink RX3 7 "PegrowModel" "things" "[I", Cond.methodLink RX3 63 yX3_open, Cond.instanceMethod yX3_open, Cond.selects RX3 yX3_open yX3_open]
def wsX3_all_r2 : List Cond := [Cond.code yX3_open cX3_open 5 none, Cond.methodLink RX3 67 yX3_age, Cond.instanceMethod yX3_age, Cond.selects RX3 yX3_age yX3_age, Cond.code yX3_age cX3_age 4 none, Cond.fieldLink RX3 34 "PegrowModel" "isOld" "[I", Cond.fieldLink RX3 19 "PegrowModel" "rowOf" "[I"]
def wsX3_all : List Cond := .code yX3_all cX3_all 6 (some .int) :: ((wsX3_all_r1 ++ wsX3_all_r2) ++ wsX30)
def wsX3_clear : List Cond := .code yX3_clear cX3_clear 3 (some .int) :: ([.fieldLink RX3 13 "PegrowModel" "sizes" "[I", .methodLink RX3 52 yX3_isRow, .static yX3_isRow, .initialized RX3, .code yX3_isRow cX3_isRow 1 (some .boolean), .methodLink RX3 40 yX3_in, .static yX3_in, .code yX3_in cX3_in 3 (some .boolean), .methodLink RX3 67 yX3_age, .instanceMethod yX3_age, .selects RX3 yX3_age yX3_age, .code yX3_age cX3_age 4 none, .fieldLink RX3 34 "PegrowModel" "isOld" "[I", .fieldLink RX3 19 "PegrowModel" "rowOf" "[I"] ++ wsX30)
def wsX3_leave : List Cond := .code yX3_leave cX3_leave 2 none :: ([.fieldLink RX3 19 "PegrowModel" "rowOf" "[I", .fieldLink RX3 25 "PegrowModel" "hand" "[I", .fieldLink RX3 31 "PegrowModel" "isLost" "[I", .fieldLink RX3 34 "PegrowModel" "isOld" "[I"] ++ wsX30)
def wsX3_copy : List Cond := .code yX3_copy cX3_copy 4 (some .int) :: ([.fieldLink RX3 19 "PegrowModel" "rowOf" "[I", .fieldLink RX3 13 "PegrowModel" "sizes" "[I", .fieldLink RX3 7 "PegrowModel" "things" "[I", .methodLink RX3 81 yX3_areTwo, .static yX3_areTwo, .initialized RX3, .code yX3_areTwo cX3_areTwo 2 (some .boolean), .methodLink RX3 52 yX3_isRow, .static yX3_isRow, .code yX3_isRow cX3_isRow 1 (some .boolean), .methodLink RX3 40 yX3_in, .static yX3_in, .code yX3_in cX3_in 3 (some .boolean), .methodLink RX3 85 yX3_leave, .instanceMethod yX3_leave, .selects RX3 yX3_leave yX3_leave, .code yX3_leave cX3_leave 2 none, .fieldLink RX3 25 "PegrowModel" "hand" "[I", .fieldLink RX3 31 "PegrowModel" "isLost" "[I", .fieldLink RX3 34 "PegrowModel" "isOld" "[I", .methodLink RX3 48 yX3_thing, .instanceMethod yX3_thing, .selects RX3 yX3_thing yX3_thing, .code yX3_thing cX3_thing 3 (some .int)] ++ wsX30)
def wsX3_turn : List Cond := .code yX3_turn cX3_turn 4 (some .int) :: ([.fieldLink RX3 13 "PegrowModel" "sizes" "[I", .fieldLink RX3 37 "PegrowModel" "aside" "[I", .fieldLink RX3 7 "PegrowModel" "things" "[I", .methodLink RX3 52 yX3_isRow, .static yX3_isRow, .initialized RX3, .code yX3_isRow cX3_isRow 1 (some .boolean), .methodLink RX3 40 yX3_in, .static yX3_in, .code yX3_in cX3_in 3 (some .boolean), .methodLink RX3 48 yX3_thing, .instanceMethod yX3_thing, .selects RX3 yX3_thing yX3_thing, .code yX3_thing cX3_thing 3 (some .int)] ++ wsX30)
def wsX3_weave : List Cond := .code yX3_weave cX3_weave 7 (some .int) :: ([.fieldLink RX3 13 "PegrowModel" "sizes" "[I", .fieldLink RX3 37 "PegrowModel" "aside" "[I", .fieldLink RX3 7 "PegrowModel" "things" "[I", .methodLink RX3 81 yX3_areTwo, .static yX3_areTwo, .initialized RX3, .code yX3_areTwo cX3_areTwo 2 (some .boolean), .methodLink RX3 52 yX3_isRow, .static yX3_isRow, .code yX3_isRow cX3_isRow 1 (some .boolean), .methodLink RX3 40 yX3_in, .static yX3_in, .code yX3_in cX3_in 3 (some .boolean), .methodLink RX3 48 yX3_thing, .instanceMethod yX3_thing, .selects RX3 yX3_thing yX3_thing, .code yX3_thing cX3_thing 3 (some .int), .methodLink RX3 67 yX3_age, .instanceMethod yX3_age, .selects RX3 yX3_age yX3_age, .code yX3_age cX3_age 4 none, .fieldLink RX3 34 "PegrowModel" "isOld" "[I", .fieldLink RX3 19 "PegrowModel" "rowOf" "[I"] ++ wsX30)
def wsX3_prune : List Cond := .code yX3_prune cX3_prune 6 (some .int) :: ([.fieldLink RX3 13 "PegrowModel" "sizes" "[I", .fieldLink RX3 7 "PegrowModel" "things" "[I", .methodLink RX3 52 yX3_isRow, .static yX3_isRow, .initialized RX3, .code yX3_isRow cX3_isRow 1 (some .boolean), .methodLink RX3 40 yX3_in, .static yX3_in, .code yX3_in cX3_in 3 (some .boolean), .methodLink RX3 48 yX3_thing, .instanceMethod yX3_thing, .selects RX3 yX3_thing yX3_thing, .code yX3_thing cX3_thing 3 (some .int), .methodLink RX3 67 yX3_age, .instanceMethod yX3_age, .selects RX3 yX3_age yX3_age, .code yX3_age cX3_age 4 none, .fieldLink RX3 34 "PegrowModel" "isOld" "[I", .fieldLink RX3 19 "PegrowModel" "rowOf" "[I"] ++ wsX30)
def wsX3_size : List Cond := .code yX3_size cX3_size 2 (some .int) :: ([.fieldLink RX3 13 "PegrowModel" "sizes" "[I", .methodLink RX3 52 yX3_isRow, .static yX3_isRow, .initialized RX3, .code yX3_isRow cX3_isRow 1 (some .boolean), .methodLink RX3 40 yX3_in, .static yX3_in, .code yX3_in cX3_in 3 (some .boolean)] ++ wsX30)
def wsX3_sum : List Cond := .code yX3_sum cX3_sum 4 (some .int) :: ([.fieldLink RX3 13 "PegrowModel" "sizes" "[I", .constant RX3 89 (1000003), .methodLink RX3 52 yX3_isRow, .static yX3_isRow, .initialized RX3, .code yX3_isRow cX3_isRow 1 (some .boolean), .methodLink RX3 40 yX3_in, .static yX3_in, .code yX3_in cX3_in 3 (some .boolean), .methodLink RX3 48 yX3_thing, .instanceMethod yX3_thing, .selects RX3 yX3_thing yX3_thing, .code yX3_thing cX3_thing 3 (some .int), .fieldLink RX3 7 "PegrowModel" "things" "[I"] ++ wsX30)
def wsX3_peg_r1 : List Cond := [Cond.fieldLink RX3 13 "PegrowModel" "sizes" "[I", Cond.fieldLink RX3 19 "PegrowModel" "rowOf" "[I", Cond.fieldLink RX3 22 "PegrowModel" "placeOf" "[I", Cond.methodLink RX3 90 yX3_isPeg, Cond.static yX3_isPeg, Cond.initialized RX3, Cond.code yX3_isPeg cX3_isPeg 1 (some .boolean), Cond.methodLink RX3 40 yX3_in, Cond.static yX3_in, Cond.code yX3_in cX3_in 3 (some .boolean), Cond.methodLink RX3 52 yX3_isRow, Cond.static yX3_isRow, Cond.code yX3_isRow cX3_isRow 1 (some .boolean), Cond.methodLink RX3 71 yX3_refuse, Cond.instanceMethod yX3_refuse, Cond.selects RX3 yX3_refuse yX3_refuse, Cond.code yX3_refuse cX3_refuse 3 (some .int), Cond.fieldLink RX3 16 "PegrowModel" "refusals" "[I", Cond.methodLink RX3 85 yX3_leave, Cond.instanceMethod yX3_leave, Cond.selects RX3 yX3_leave yX3_leave, Cond.code yX3_leave cX3_leave 2 none, Cond.fieldLink RX3 25 "PegrowModel" "hand" "[I", Cond.fieldLink RX3 31 "PegrowModel" "isLost" "[I"]
def wsX3_peg_r2 : List Cond := [Cond.fieldLink RX3 34 "PegrowModel" "isOld" "[I"]
def wsX3_peg : List Cond := .code yX3_peg cX3_peg 4 (some .int) :: ((wsX3_peg_r1 ++ wsX3_peg_r2) ++ wsX30)
def wsX3_bars : List Cond := .code yX3_bars cX3_bars 2 (some .int) :: ([.fieldLink RX3 19 "PegrowModel" "rowOf" "[I", .fieldLink RX3 34 "PegrowModel" "isOld" "[I", .methodLink RX3 71 yX3_refuse, .instanceMethod yX3_refuse, .selects RX3 yX3_refuse yX3_refuse, .initialized RX3, .code yX3_refuse cX3_refuse 3 (some .int), .fieldLink RX3 16 "PegrowModel" "refusals" "[I"] ++ wsX30)
def wsX3_goes : List Cond := .code yX3_goes cX3_goes 5 (some .int) :: ([.fieldLink RX3 19 "PegrowModel" "rowOf" "[I", .fieldLink RX3 13 "PegrowModel" "sizes" "[I", .fieldLink RX3 31 "PegrowModel" "isLost" "[I", .fieldLink RX3 25 "PegrowModel" "hand" "[I", .fieldLink RX3 28 "PegrowModel" "handAt" "[I", .fieldLink RX3 22 "PegrowModel" "placeOf" "[I", .methodLink RX3 40 yX3_in, .static yX3_in, .initialized RX3, .code yX3_in cX3_in 3 (some .boolean), .methodLink RX3 71 yX3_refuse, .instanceMethod yX3_refuse, .selects RX3 yX3_refuse yX3_refuse, .code yX3_refuse cX3_refuse 3 (some .int), .fieldLink RX3 16 "PegrowModel" "refusals" "[I", .methodLink RX3 48 yX3_thing, .instanceMethod yX3_thing, .selects RX3 yX3_thing yX3_thing, .code yX3_thing cX3_thing 3 (some .int), .fieldLink RX3 7 "PegrowModel" "things" "[I"] ++ wsX30)
def wsX3_next_r1 : List Cond := [Cond.fieldLink RX3 22 "PegrowModel" "placeOf" "[I", Cond.methodLink RX3 90 yX3_isPeg, Cond.static yX3_isPeg, Cond.initialized RX3, Cond.code yX3_isPeg cX3_isPeg 1 (some .boolean), Cond.methodLink RX3 40 yX3_in, Cond.static yX3_in, Cond.code yX3_in cX3_in 3 (some .boolean), Cond.methodLink RX3 93 yX3_bars, Cond.instanceMethod yX3_bars, Cond.selects RX3 yX3_bars yX3_bars, Cond.code yX3_bars cX3_bars 2 (some .int), Cond.fieldLink RX3 19 "PegrowModel" "rowOf" "[I", Cond.fieldLink RX3 34 "PegrowModel" "isOld" "[I", Cond.methodLink RX3 71 yX3_refuse, Cond.instanceMethod yX3_refuse, Cond.selects RX3 yX3_refuse yX3_refuse, Cond.code yX3_refuse cX3_refuse 3 (some .int), Cond.fieldLink RX3 16 "PegrowModel" "refusals" "[I", Cond.methodLink RX3 96 yX3_goes, Cond.instanceMethod yX3_goes, Cond.selects RX3 yX3_goes yX3_goes, Cond.code yX3_goes cX3_goes 5 (some .int), Cond.fieldLink RX3 13 "PegrowModel" "sizes" "[I"]
def wsX3_next_r2 : List Cond := [Cond.fieldLink RX3 31 "PegrowModel" "isLost" "[I", Cond.fieldLink RX3 25 "PegrowModel" "hand" "[I", Cond.fieldLink RX3 28 "PegrowModel" "handAt" "[I", Cond.methodLink RX3 48 yX3_thing, Cond.instanceMethod yX3_thing, Cond.selects RX3 yX3_thing yX3_thing, Cond.code yX3_thing cX3_thing 3 (some .int), Cond.fieldLink RX3 7 "PegrowModel" "things" "[I"]
def wsX3_next : List Cond := .code yX3_next cX3_next 3 (some .int) :: ((wsX3_next_r1 ++ wsX3_next_r2) ++ wsX30)
def wsX3_previous_r1 : List Cond := [Cond.fieldLink RX3 22 "PegrowModel" "placeOf" "[I", Cond.methodLink RX3 90 yX3_isPeg, Cond.static yX3_isPeg, Cond.initialized RX3, Cond.code yX3_isPeg cX3_isPeg 1 (some .boolean), Cond.methodLink RX3 40 yX3_in, Cond.static yX3_in, Cond.code yX3_in cX3_in 3 (some .boolean), Cond.methodLink RX3 93 yX3_bars, Cond.instanceMethod yX3_bars, Cond.selects RX3 yX3_bars yX3_bars, Cond.code yX3_bars cX3_bars 2 (some .int), Cond.fieldLink RX3 19 "PegrowModel" "rowOf" "[I", Cond.fieldLink RX3 34 "PegrowModel" "isOld" "[I", Cond.methodLink RX3 71 yX3_refuse, Cond.instanceMethod yX3_refuse, Cond.selects RX3 yX3_refuse yX3_refuse, Cond.code yX3_refuse cX3_refuse 3 (some .int), Cond.fieldLink RX3 16 "PegrowModel" "refusals" "[I", Cond.methodLink RX3 96 yX3_goes, Cond.instanceMethod yX3_goes, Cond.selects RX3 yX3_goes yX3_goes, Cond.code yX3_goes cX3_goes 5 (some .int), Cond.fieldLink RX3 13 "PegrowModel" "sizes" "[I"]
def wsX3_previous_r2 : List Cond := [Cond.fieldLink RX3 31 "PegrowModel" "isLost" "[I", Cond.fieldLink RX3 25 "PegrowModel" "hand" "[I", Cond.fieldLink RX3 28 "PegrowModel" "handAt" "[I", Cond.methodLink RX3 48 yX3_thing, Cond.instanceMethod yX3_thing, Cond.selects RX3 yX3_thing yX3_thing, Cond.code yX3_thing cX3_thing 3 (some .int), Cond.fieldLink RX3 7 "PegrowModel" "things" "[I"]
def wsX3_previous : List Cond := .code yX3_previous cX3_previous 3 (some .int) :: ((wsX3_previous_r1 ++ wsX3_previous_r2) ++ wsX30)
def wsX3_side : List Cond := .code yX3_side cX3_side 4 (some .int) :: ([.fieldLink RX3 19 "PegrowModel" "rowOf" "[I", .fieldLink RX3 34 "PegrowModel" "isOld" "[I", .fieldLink RX3 22 "PegrowModel" "placeOf" "[I", .fieldLink RX3 13 "PegrowModel" "sizes" "[I", .methodLink RX3 90 yX3_isPeg, .static yX3_isPeg, .initialized RX3, .code yX3_isPeg cX3_isPeg 1 (some .boolean), .methodLink RX3 40 yX3_in, .static yX3_in, .code yX3_in cX3_in 3 (some .boolean)] ++ wsX30)
def wsX3_barsHand : List Cond := .code yX3_barsHand cX3_barsHand 3 (some .int) :: ([.fieldLink RX3 31 "PegrowModel" "isLost" "[I", .fieldLink RX3 25 "PegrowModel" "hand" "[I", .fieldLink RX3 19 "PegrowModel" "rowOf" "[I", .fieldLink RX3 28 "PegrowModel" "handAt" "[I", .methodLink RX3 93 yX3_bars, .instanceMethod yX3_bars, .selects RX3 yX3_bars yX3_bars, .initialized RX3, .code yX3_bars cX3_bars 2 (some .int), .fieldLink RX3 34 "PegrowModel" "isOld" "[I", .methodLink RX3 71 yX3_refuse, .instanceMethod yX3_refuse, .selects RX3 yX3_refuse yX3_refuse, .code yX3_refuse cX3_refuse 3 (some .int), .fieldLink RX3 16 "PegrowModel" "refusals" "[I", .methodLink RX3 48 yX3_thing, .instanceMethod yX3_thing, .selects RX3 yX3_thing yX3_thing, .code yX3_thing cX3_thing 3 (some .int), .fieldLink RX3 7 "PegrowModel" "things" "[I"] ++ wsX30)
def wsX3_change_r1 : List Cond := [Cond.fieldLink RX3 25 "PegrowModel" "hand" "[I", Cond.fieldLink RX3 7 "PegrowModel" "things" "[I", Cond.fieldLink RX3 19 "PegrowModel" "rowOf" "[I", Cond.fieldLink RX3 28 "PegrowModel" "handAt" "[I", Cond.methodLink RX3 90 yX3_isPeg, Cond.static yX3_isPeg, Cond.initialized RX3, Cond.code yX3_isPeg cX3_isPeg 1 (some .boolean), Cond.methodLink RX3 40 yX3_in, Cond.static yX3_in, Cond.code yX3_in cX3_in 3 (some .boolean), Cond.methodLink RX3 56 yX3_isName, Cond.static yX3_isName, Cond.code yX3_isName cX3_isName 1 (some .boolean), Cond.methodLink RX3 100 yX3_barsHand, Cond.instanceMethod yX3_barsHand, Cond.selects RX3 yX3_barsHand yX3_barsHand, Cond.code yX3_barsHand cX3_barsHand 3 (some .int), Cond.fieldLink RX3 31 "PegrowModel" "isLost" "[I", Cond.methodLink RX3 93 yX3_bars, Cond.instanceMethod yX3_bars, Cond.selects RX3 yX3_bars yX3_bars, Cond.code yX3_bars cX3_bars 2 (some .int), Cond.fieldLink RX3 34 "PegrowModel" "isOld" "[I"]
def wsX3_change_r2 : List Cond := [Cond.methodLink RX3 71 yX3_refuse, Cond.instanceMethod yX3_refuse, Cond.selects RX3 yX3_refuse yX3_refuse, Cond.code yX3_refuse cX3_refuse 3 (some .int), Cond.fieldLink RX3 16 "PegrowModel" "refusals" "[I", Cond.methodLink RX3 48 yX3_thing, Cond.instanceMethod yX3_thing, Cond.selects RX3 yX3_thing yX3_thing, Cond.code yX3_thing cX3_thing 3 (some .int), Cond.methodLink RX3 59 yX3_make, Cond.instanceMethod yX3_make, Cond.selects RX3 yX3_make yX3_make, Cond.code yX3_make cX3_make 2 (some .int), Cond.fieldLink RX3 44 "PegrowModel" "made" "I"]
def wsX3_change : List Cond := .code yX3_change cX3_change 5 (some .int) :: ((wsX3_change_r1 ++ wsX3_change_r2) ++ wsX30)
def wsX3_add_r1 : List Cond := [Cond.fieldLink RX3 19 "PegrowModel" "rowOf" "[I", Cond.fieldLink RX3 13 "PegrowModel" "sizes" "[I", Cond.fieldLink RX3 22 "PegrowModel" "placeOf" "[I", Cond.fieldLink RX3 25 "PegrowModel" "hand" "[I", Cond.fieldLink RX3 31 "PegrowModel" "isLost" "[I", Cond.methodLink RX3 90 yX3_isPeg, Cond.static yX3_isPeg, Cond.initialized RX3, Cond.code yX3_isPeg cX3_isPeg 1 (some .boolean), Cond.methodLink RX3 40 yX3_in, Cond.static yX3_in, Cond.code yX3_in cX3_in 3 (some .boolean), Cond.methodLink RX3 56 yX3_isName, Cond.static yX3_isName, Cond.code yX3_isName cX3_isName 1 (some .boolean), Cond.methodLink RX3 93 yX3_bars, Cond.instanceMethod yX3_bars, Cond.selects RX3 yX3_bars yX3_bars, Cond.code yX3_bars cX3_bars 2 (some .int), Cond.fieldLink RX3 34 "PegrowModel" "isOld" "[I", Cond.methodLink RX3 71 yX3_refuse, Cond.instanceMethod yX3_refuse, Cond.selects RX3 yX3_refuse yX3_refuse, Cond.code yX3_refuse cX3_refuse 3 (some .int)]
def wsX3_add_r2 : List Cond := [Cond.fieldLink RX3 16 "PegrowModel" "refusals" "[I", Cond.methodLink RX3 59 yX3_make, Cond.instanceMethod yX3_make, Cond.selects RX3 yX3_make yX3_make, Cond.code yX3_make cX3_make 2 (some .int), Cond.fieldLink RX3 44 "PegrowModel" "made" "I", Cond.methodLink RX3 63 yX3_open, Cond.instanceMethod yX3_open, Cond.selects RX3 yX3_open yX3_open, Cond.code yX3_open cX3_open 5 none, Cond.fieldLink RX3 7 "PegrowModel" "things" "[I", Cond.methodLink RX3 48 yX3_thing, Cond.instanceMethod yX3_thing, Cond.selects RX3 yX3_thing yX3_thing, Cond.code yX3_thing cX3_thing 3 (some .int), Cond.methodLink RX3 67 yX3_age, Cond.instanceMethod yX3_age, Cond.selects RX3 yX3_age yX3_age, Cond.code yX3_age cX3_age 4 none]
def wsX3_add : List Cond := .code yX3_add cX3_add 5 (some .int) :: ((wsX3_add_r1 ++ wsX3_add_r2) ++ wsX30)
def wsX3_remove_r1 : List Cond := [Cond.fieldLink RX3 19 "PegrowModel" "rowOf" "[I", Cond.fieldLink RX3 28 "PegrowModel" "handAt" "[I", Cond.fieldLink RX3 22 "PegrowModel" "placeOf" "[I", Cond.fieldLink RX3 25 "PegrowModel" "hand" "[I", Cond.methodLink RX3 90 yX3_isPeg, Cond.static yX3_isPeg, Cond.initialized RX3, Cond.code yX3_isPeg cX3_isPeg 1 (some .boolean), Cond.methodLink RX3 40 yX3_in, Cond.static yX3_in, Cond.code yX3_in cX3_in 3 (some .boolean), Cond.methodLink RX3 100 yX3_barsHand, Cond.instanceMethod yX3_barsHand, Cond.selects RX3 yX3_barsHand yX3_barsHand, Cond.code yX3_barsHand cX3_barsHand 3 (some .int), Cond.fieldLink RX3 31 "PegrowModel" "isLost" "[I", Cond.methodLink RX3 93 yX3_bars, Cond.instanceMethod yX3_bars, Cond.selects RX3 yX3_bars yX3_bars, Cond.code yX3_bars cX3_bars 2 (some .int), Cond.fieldLink RX3 34 "PegrowModel" "isOld" "[I", Cond.methodLink RX3 71 yX3_refuse, Cond.instanceMethod yX3_refuse, Cond.selects RX3 yX3_refuse yX3_refuse]
def wsX3_remove_r2 : List Cond := [Cond.code yX3_refuse cX3_refuse 3 (some .int), Cond.fieldLink RX3 16 "PegrowModel" "refusals" "[I", Cond.methodLink RX3 48 yX3_thing, Cond.instanceMethod yX3_thing, Cond.selects RX3 yX3_thing yX3_thing, Cond.code yX3_thing cX3_thing 3 (some .int), Cond.fieldLink RX3 7 "PegrowModel" "things" "[I", Cond.methodLink RX3 74 yX3_close, Cond.instanceMethod yX3_close, Cond.selects RX3 yX3_close yX3_close, Cond.code yX3_close cX3_close 5 (some .int), Cond.fieldLink RX3 13 "PegrowModel" "sizes" "[I", Cond.methodLink RX3 67 yX3_age, Cond.instanceMethod yX3_age, Cond.selects RX3 yX3_age yX3_age, Cond.code yX3_age cX3_age 4 none]
def wsX3_remove : List Cond := .code yX3_remove cX3_remove 4 (some .int) :: ((wsX3_remove_r1 ++ wsX3_remove_r2) ++ wsX30)
def wsX3_old : List Cond := .code yX3_old cX3_old 2 (some .int) :: ([.fieldLink RX3 19 "PegrowModel" "rowOf" "[I", .fieldLink RX3 34 "PegrowModel" "isOld" "[I", .methodLink RX3 90 yX3_isPeg, .static yX3_isPeg, .initialized RX3, .code yX3_isPeg cX3_isPeg 1 (some .boolean), .methodLink RX3 40 yX3_in, .static yX3_in, .code yX3_in cX3_in 3 (some .boolean)] ++ wsX30)
def wsX3_standing : List Cond := .code yX3_standing cX3_standing 3 (some .int) :: ([.fieldLink RX3 19 "PegrowModel" "rowOf" "[I"] ++ wsX30)
def wsX3_count : List Cond := .code yX3_count cX3_count 2 (some .int) :: ([.fieldLink RX3 44 "PegrowModel" "made" "I", .fieldLink RX3 16 "PegrowModel" "refusals" "[I", .fieldLink RX3 34 "PegrowModel" "isOld" "[I", .methodLink RX3 40 yX3_in, .static yX3_in, .initialized RX3, .code yX3_in cX3_in 3 (some .boolean), .methodLink RX3 103 yX3_standing, .instanceMethod yX3_standing, .selects RX3 yX3_standing yX3_standing, .code yX3_standing cX3_standing 3 (some .int), .fieldLink RX3 19 "PegrowModel" "rowOf" "[I"] ++ wsX30)
def wsJ9_min_7cf53 : List Cond := .code yJ9_min_7cf53 cJ9_min_7cf53 2 (some .int) :: ([])
def wsL_law_r1 : List Cond := [Cond.classLink RL 7 RX2, Cond.instantiable RX2 7, Cond.initialized RX2, Cond.classLink RL 10 RX3, Cond.instantiable RX3 11, Cond.initialized RX3, Cond.methodLink RL 9 yX2_init, Cond.instanceMethod yX2_init, Cond.code yX2_init cX2_init 2 none, Cond.methodLink RX2 1 objectInit, Cond.instanceMethod objectInit, Cond.code objectInit ⟨#[0xb1]⟩ 1 none, Cond.classLink RX2 9 RX1, Cond.fieldLink RX2 11 "Pegrow" "rows" "[LPegrow$Row;", Cond.classLink RX2 15 RX0, Cond.fieldLink RX2 17 "Pegrow" "pegs" "[LPegrow$Peg;", Cond.instantiable RX1 3, Cond.initialized RX1, Cond.instantiable RX0 6, Cond.initialized RX0, Cond.instanceMethod yX1_init, Cond.code yX1_init cX1_init 1 none, Cond.methodLink RX1 3 objectInit, Cond.arrayClass .int]
def wsL_law_r2 : List Cond := [Cond.fieldLink RX1 9 "Pegrow$Row" "things" "[I", Cond.instanceMethod yX0_init, Cond.code yX0_init cX0_init 1 none, Cond.methodLink RX0 3 objectInit, Cond.fieldLink RX0 9 "Pegrow$Peg" "hand" "I", Cond.methodLink RL 12 yX3_init, Cond.instanceMethod yX3_init, Cond.code yX3_init cX3_init 2 none, Cond.methodLink RX3 1 objectInit, Cond.fieldLink RX3 7 "PegrowModel" "things" "[I", Cond.fieldLink RX3 13 "PegrowModel" "sizes" "[I", Cond.fieldLink RX3 16 "PegrowModel" "refusals" "[I", Cond.fieldLink RX3 19 "PegrowModel" "rowOf" "[I", Cond.fieldLink RX3 22 "PegrowModel" "placeOf" "[I", Cond.fieldLink RX3 25 "PegrowModel" "hand" "[I", Cond.fieldLink RX3 28 "PegrowModel" "handAt" "[I", Cond.fieldLink RX3 31 "PegrowModel" "isLost" "[I", Cond.fieldLink RX3 34 "PegrowModel" "isOld" "[I", Cond.fieldLink RX3 37 "PegrowModel" "aside" "[I", Cond.methodLink RL 13 yX2_put, Cond.instanceMethod yX2_put, Cond.selects RX2 yX2_put yX2_put, Cond.code yX2_put cX2_put 6 (some .int), Cond.methodLink RX2 23 yX2_rowOf]
def wsL_law_r3 : List Cond := [Cond.instanceMethod yX2_rowOf, Cond.selects RX2 yX2_rowOf yX2_rowOf, Cond.code yX2_rowOf cX2_rowOf 2 (some (.object "Pegrow$Row")), Cond.methodLink RX2 27 yX2_isName, Cond.static yX2_isName, Cond.code yX2_isName cX2_isName 1 (some .boolean), Cond.methodLink RX2 31 yX1_hasRoomFor, Cond.instanceMethod yX1_hasRoomFor, Cond.selects RX1 yX1_hasRoomFor yX1_hasRoomFor, Cond.code yX1_hasRoomFor cX1_hasRoomFor 2 (some .boolean), Cond.fieldLink RX1 15 "Pegrow$Row" "length" "I", Cond.methodLink RX2 38 yX2_newThing, Cond.instanceMethod yX2_newThing, Cond.selects RX2 yX2_newThing yX2_newThing, Cond.code yX2_newThing cX2_newThing 3 (some .int), Cond.fieldLink RX2 146 "Pegrow" "made" "I", Cond.methodLink RX2 42 yX1_putAt, Cond.instanceMethod yX1_putAt, Cond.selects RX1 yX1_putAt yX1_putAt, Cond.code yX1_putAt cX1_putAt 3 none, Cond.methodLink RX1 19 yX1_openAt, Cond.instanceMethod yX1_openAt, Cond.selects RX1 yX1_openAt yX1_openAt, Cond.code yX1_openAt cX1_openAt 4 none]
def wsL_law_r4 : List Cond := [Cond.fieldLink RX1 27 "Pegrow$Row" "changes" "I", Cond.methodLink RL 17 yX3_put, Cond.instanceMethod yX3_put, Cond.selects RX3 yX3_put yX3_put, Cond.code yX3_put cX3_put 5 (some .int), Cond.methodLink RX3 52 yX3_isRow, Cond.static yX3_isRow, Cond.code yX3_isRow cX3_isRow 1 (some .boolean), Cond.methodLink RX3 40 yX3_in, Cond.static yX3_in, Cond.code yX3_in cX3_in 3 (some .boolean), Cond.methodLink RX3 56 yX3_isName, Cond.static yX3_isName, Cond.code yX3_isName cX3_isName 1 (some .boolean), Cond.methodLink RX3 59 yX3_make, Cond.instanceMethod yX3_make, Cond.selects RX3 yX3_make yX3_make, Cond.code yX3_make cX3_make 2 (some .int), Cond.fieldLink RX3 44 "PegrowModel" "made" "I", Cond.methodLink RX3 63 yX3_open, Cond.instanceMethod yX3_open, Cond.selects RX3 yX3_open yX3_open, Cond.code yX3_open cX3_open 5 none, Cond.methodLink RX3 48 yX3_thing]
def wsL_law_r5 : List Cond := [Cond.instanceMethod yX3_thing, Cond.selects RX3 yX3_thing yX3_thing, Cond.code yX3_thing cX3_thing 3 (some .int), Cond.methodLink RX3 67 yX3_age, Cond.instanceMethod yX3_age, Cond.selects RX3 yX3_age yX3_age, Cond.code yX3_age cX3_age 4 none, Cond.methodLink RL 18 yX2_end, Cond.instanceMethod yX2_end, Cond.selects RX2 yX2_end yX2_end, Cond.code yX2_end cX2_end 5 (some .int), Cond.methodLink RX2 46 yX2_isEndWay, Cond.static yX2_isEndWay, Cond.code yX2_isEndWay cX2_isEndWay 3 (some .boolean), Cond.methodLink RX2 50 yX2_noEnd, Cond.instanceMethod yX2_noEnd, Cond.selects RX2 yX2_noEnd yX2_noEnd, Cond.code yX2_noEnd cX2_noEnd 2 (some .int), Cond.methodLink RX2 62 yX2_refused, Cond.instanceMethod yX2_refused, Cond.selects RX2 yX2_refused yX2_refused, Cond.code yX2_refused cX2_refused 2 (some .int), Cond.fieldLink RX2 149 "Pegrow" "emptyRefusals" "I", Cond.fieldLink RX2 152 "Pegrow" "placeRefusals" "I"]
def wsL_law_r6 : List Cond := [Cond.fieldLink RX2 155 "Pegrow" "stateRefusals" "I", Cond.fieldLink RX2 158 "Pegrow" "oldRefusals" "I", Cond.methodLink RX2 53 yX1_thingAt, Cond.instanceMethod yX1_thingAt, Cond.selects RX1 yX1_thingAt yX1_thingAt, Cond.code yX1_thingAt cX1_thingAt 2 (some .int), Cond.methodLink RL 22 yX3_end, Cond.instanceMethod yX3_end, Cond.selects RX3 yX3_end yX3_end, Cond.code yX3_end cX3_end 4 (some .int), Cond.methodLink RX3 71 yX3_refuse, Cond.instanceMethod yX3_refuse, Cond.selects RX3 yX3_refuse yX3_refuse, Cond.code yX3_refuse cX3_refuse 3 (some .int), Cond.methodLink RL 23 yX2_take, Cond.instanceMethod yX2_take, Cond.selects RX2 yX2_take yX2_take, Cond.code yX2_take cX2_take 5 (some .int), Cond.methodLink RX2 56 yX1_takeAt, Cond.instanceMethod yX1_takeAt, Cond.selects RX1 yX1_takeAt yX1_takeAt, Cond.code yX1_takeAt cX1_takeAt 4 (some .int), Cond.methodLink RX1 23 yX1_keepFirst, Cond.instanceMethod yX1_keepFirst]
def wsL_law_r7 : List Cond := [Cond.selects RX1 yX1_keepFirst yX1_keepFirst, Cond.code yX1_keepFirst cX1_keepFirst 2 none, Cond.methodLink RL 26 yX3_take, Cond.instanceMethod yX3_take, Cond.selects RX3 yX3_take yX3_take, Cond.code yX3_take cX3_take 4 (some .int), Cond.methodLink RX3 74 yX3_close, Cond.instanceMethod yX3_close, Cond.selects RX3 yX3_close yX3_close, Cond.code yX3_close cX3_close 5 (some .int), Cond.methodLink RL 27 yX2_at, Cond.instanceMethod yX2_at, Cond.selects RX2 yX2_at yX2_at, Cond.code yX2_at cX2_at 4 (some .int), Cond.methodLink RX2 59 yX1_hasThingAt, Cond.instanceMethod yX1_hasThingAt, Cond.selects RX1 yX1_hasThingAt yX1_hasThingAt, Cond.code yX1_hasThingAt cX1_hasThingAt 2 (some .boolean), Cond.methodLink RL 31 yX3_at, Cond.instanceMethod yX3_at, Cond.selects RX3 yX3_at yX3_at, Cond.code yX3_at cX3_at 3 (some .int), Cond.methodLink RL 32 yX2_lay, Cond.instanceMethod yX2_lay]
def wsL_law_r8 : List Cond := [Cond.selects RX2 yX2_lay yX2_lay, Cond.code yX2_lay cX2_lay 5 (some .int), Cond.methodLink RX2 65 yX1_layAt, Cond.instanceMethod yX1_layAt, Cond.selects RX1 yX1_layAt yX1_layAt, Cond.code yX1_layAt cX1_layAt 4 (some .int), Cond.methodLink RL 36 yX3_lay, Cond.instanceMethod yX3_lay, Cond.selects RX3 yX3_lay yX3_lay, Cond.code yX3_lay cX3_lay 5 (some .int), Cond.methodLink RL 37 yX2_insert, Cond.instanceMethod yX2_insert, Cond.selects RX2 yX2_insert yX2_insert, Cond.code yX2_insert cX2_insert 5 (some .int), Cond.methodLink RX2 69 yX1_canPutAt, Cond.instanceMethod yX1_canPutAt, Cond.selects RX1 yX1_canPutAt yX1_canPutAt, Cond.code yX1_canPutAt cX1_canPutAt 2 (some .boolean), Cond.methodLink RL 40 yX3_insert, Cond.instanceMethod yX3_insert, Cond.selects RX3 yX3_insert yX3_insert, Cond.code yX3_insert cX3_insert 4 (some .int), Cond.methodLink RL 41 yX2_drop, Cond.instanceMethod yX2_drop]
def wsL_law_r9 : List Cond := [Cond.selects RX2 yX2_drop yX2_drop, Cond.code yX2_drop cX2_drop 4 (some .int), Cond.methodLink RL 44 yX3_drop, Cond.instanceMethod yX3_drop, Cond.selects RX3 yX3_drop yX3_drop, Cond.code yX3_drop cX3_drop 3 (some .int), Cond.methodLink RL 45 yX2_find, Cond.instanceMethod yX2_find, Cond.selects RX2 yX2_find yX2_find, Cond.code yX2_find cX2_find 6 (some .int), Cond.methodLink RX2 72 yX1_placeOf, Cond.instanceMethod yX1_placeOf, Cond.selects RX1 yX1_placeOf yX1_placeOf, Cond.code yX1_placeOf cX1_placeOf 5 (some .int), Cond.methodLink RL 49 yX3_find, Cond.instanceMethod yX3_find, Cond.selects RX3 yX3_find yX3_find, Cond.code yX3_find cX3_find 5 (some .int), Cond.methodLink RX3 77 yX3_placeBy, Cond.instanceMethod yX3_placeBy, Cond.selects RX3 yX3_placeBy yX3_placeBy, Cond.code yX3_placeBy cX3_placeBy 6 (some .int), Cond.methodLink RL 50 yX2_has, Cond.instanceMethod yX2_has]
def wsL_law_r10 : List Cond := [Cond.selects RX2 yX2_has yX2_has, Cond.code yX2_has cX2_has 4 (some .int), Cond.methodLink RX2 76 yX2_oneIf, Cond.static yX2_oneIf, Cond.code yX2_oneIf cX2_oneIf 1 (some .int), Cond.methodLink RL 53 yX3_has, Cond.instanceMethod yX3_has, Cond.selects RX3 yX3_has yX3_has, Cond.code yX3_has cX3_has 3 (some .int), Cond.methodLink RL 54 yX2_lose, Cond.instanceMethod yX2_lose, Cond.selects RX2 yX2_lose yX2_lose, Cond.code yX2_lose cX2_lose 6 (some .int), Cond.methodLink RL 57 yX3_lose, Cond.instanceMethod yX3_lose, Cond.selects RX3 yX3_lose yX3_lose, Cond.code yX3_lose cX3_lose 6 (some .int), Cond.methodLink RL 58 yX2_all, Cond.instanceMethod yX2_all, Cond.selects RX2 yX2_all yX2_all, Cond.code yX2_all cX2_all 7 (some .int), Cond.methodLink RX2 80 yX1_putAllAt, Cond.instanceMethod yX1_putAllAt, Cond.selects RX1 yX1_putAllAt yX1_putAllAt]
def wsL_law_r11 : List Cond := [Cond.code yX1_putAllAt cX1_putAllAt 4 none, Cond.methodLink RL 61 yX3_all, Cond.instanceMethod yX3_all, Cond.selects RX3 yX3_all yX3_all, Cond.code yX3_all cX3_all 6 (some .int), Cond.methodLink RX3 81 yX3_areTwo, Cond.static yX3_areTwo, Cond.code yX3_areTwo cX3_areTwo 2 (some .boolean), Cond.methodLink RL 62 yX2_clear, Cond.instanceMethod yX2_clear, Cond.selects RX2 yX2_clear yX2_clear, Cond.code yX2_clear cX2_clear 4 (some .int), Cond.methodLink RX2 84 yX1_keepFirst, Cond.methodLink RL 66 yX3_clear, Cond.instanceMethod yX3_clear, Cond.selects RX3 yX3_clear yX3_clear, Cond.code yX3_clear cX3_clear 3 (some .int), Cond.methodLink RL 67 yX2_copy, Cond.instanceMethod yX2_copy, Cond.selects RX2 yX2_copy yX2_copy, Cond.code yX2_copy cX2_copy 6 (some .int), Cond.methodLink RX2 88 yX0_leave, Cond.instanceMethod yX0_leave, Cond.selects RX0 yX0_leave yX0_leave]
def wsL_law_r12 : List Cond := [Cond.code yX0_leave cX0_leave 2 none, Cond.fieldLink RX0 15 "Pegrow$Peg" "row" "LPegrow$Row;", Cond.methodLink RX2 92 yX1_becomeLike, Cond.instanceMethod yX1_becomeLike, Cond.selects RX1 yX1_becomeLike yX1_becomeLike, Cond.code yX1_becomeLike cX1_becomeLike 3 none, Cond.methodLink RL 70 yX3_copy, Cond.instanceMethod yX3_copy, Cond.selects RX3 yX3_copy yX3_copy, Cond.code yX3_copy cX3_copy 4 (some .int), Cond.methodLink RX3 85 yX3_leave, Cond.instanceMethod yX3_leave, Cond.selects RX3 yX3_leave yX3_leave, Cond.code yX3_leave cX3_leave 2 none, Cond.methodLink RL 71 yX2_turn, Cond.instanceMethod yX2_turn, Cond.selects RX2 yX2_turn yX2_turn, Cond.code yX2_turn cX2_turn 3 (some .int), Cond.methodLink RX2 95 yX1_turnRound, Cond.instanceMethod yX1_turnRound, Cond.selects RX1 yX1_turnRound yX1_turnRound, Cond.code yX1_turnRound cX1_turnRound 2 none, Cond.methodLink RX1 30 yX1_layAt, Cond.methodLink RL 74 yX3_turn]
def wsL_law_r13 : List Cond := [Cond.instanceMethod yX3_turn, Cond.selects RX3 yX3_turn yX3_turn, Cond.code yX3_turn cX3_turn 4 (some .int), Cond.methodLink RL 75 yX2_weave, Cond.instanceMethod yX2_weave, Cond.selects RX2 yX2_weave yX2_weave, Cond.code yX2_weave cX2_weave 5 (some .int), Cond.methodLink RX2 98 yX1_weaveIn, Cond.instanceMethod yX1_weaveIn, Cond.selects RX1 yX1_weaveIn yX1_weaveIn, Cond.code yX1_weaveIn cX1_weaveIn 4 none, Cond.methodLink RX1 34 Lib.Math.min.name, Cond.static Lib.Math.min.name, Cond.initialized "java/lang/Math", Cond.code Lib.Math.min.name Lib.Math.min.code 2 (some .int), Cond.methodLink RL 78 yX3_weave, Cond.instanceMethod yX3_weave, Cond.selects RX3 yX3_weave yX3_weave, Cond.code yX3_weave cX3_weave 7 (some .int), Cond.methodLink RL 79 yX2_prune, Cond.instanceMethod yX2_prune, Cond.selects RX2 yX2_prune yX2_prune, Cond.code yX2_prune cX2_prune 3 (some .int), Cond.methodLink RX2 101 yX1_takeRepeats]
def wsL_law_r14 : List Cond := [Cond.instanceMethod yX1_takeRepeats, Cond.selects RX1 yX1_takeRepeats yX1_takeRepeats, Cond.code yX1_takeRepeats cX1_takeRepeats 6 (some .int), Cond.methodLink RL 82 yX3_prune, Cond.instanceMethod yX3_prune, Cond.selects RX3 yX3_prune yX3_prune, Cond.code yX3_prune cX3_prune 6 (some .int), Cond.methodLink RL 83 yX2_size, Cond.instanceMethod yX2_size, Cond.selects RX2 yX2_size yX2_size, Cond.code yX2_size cX2_size 3 (some .int), Cond.methodLink RL 86 yX3_size, Cond.instanceMethod yX3_size, Cond.selects RX3 yX3_size yX3_size, Cond.code yX3_size cX3_size 2 (some .int), Cond.methodLink RL 87 yX2_sum, Cond.instanceMethod yX2_sum, Cond.selects RX2 yX2_sum yX2_sum, Cond.code yX2_sum cX2_sum 3 (some .int), Cond.methodLink RX2 105 yX1_number, Cond.instanceMethod yX1_number, Cond.selects RX1 yX1_number yX1_number, Cond.code yX1_number cX1_number 3 (some .int), Cond.constant RX1 39 (1000003)]
def wsL_law_r15 : List Cond := [Cond.methodLink RL 90 yX3_sum, Cond.instanceMethod yX3_sum, Cond.selects RX3 yX3_sum yX3_sum, Cond.code yX3_sum cX3_sum 4 (some .int), Cond.constant RX3 89 (1000003), Cond.methodLink RL 91 yX2_peg, Cond.instanceMethod yX2_peg, Cond.selects RX2 yX2_peg yX2_peg, Cond.code yX2_peg cX2_peg 6 (some .int), Cond.methodLink RX2 108 yX2_pegOf, Cond.instanceMethod yX2_pegOf, Cond.selects RX2 yX2_pegOf yX2_pegOf, Cond.code yX2_pegOf cX2_pegOf 2 (some (.object "Pegrow$Peg")), Cond.methodLink RX2 112 yX0_standIn, Cond.instanceMethod yX0_standIn, Cond.selects RX0 yX0_standIn yX0_standIn, Cond.code yX0_standIn cX0_standIn 3 none, Cond.fieldLink RX0 19 "Pegrow$Peg" "ahead" "I", Cond.fieldLink RX0 27 "Pegrow$Peg" "seen" "I", Cond.fieldLink RX0 30 "Pegrow$Peg" "missed" "Z", Cond.methodLink RL 94 yX3_peg, Cond.instanceMethod yX3_peg, Cond.selects RX3 yX3_peg yX3_peg, Cond.code yX3_peg cX3_peg 4 (some .int)]
def wsL_law_r16 : List Cond := [Cond.methodLink RX3 90 yX3_isPeg, Cond.static yX3_isPeg, Cond.code yX3_isPeg cX3_isPeg 1 (some .boolean), Cond.methodLink RL 95 yX2_next, Cond.instanceMethod yX2_next, Cond.selects RX2 yX2_next yX2_next, Cond.code yX2_next cX2_next 2 (some .int), Cond.methodLink RX2 116 yX2_goOver, Cond.instanceMethod yX2_goOver, Cond.selects RX2 yX2_goOver yX2_goOver, Cond.code yX2_goOver cX2_goOver 6 (some .int), Cond.methodLink RX2 139 yX0_hold, Cond.instanceMethod yX0_hold, Cond.selects RX0 yX0_hold yX0_hold, Cond.code yX0_hold cX0_hold 3 (some .int), Cond.fieldLink RX0 34 "Pegrow$Peg" "held" "I", Cond.methodLink RL 98 yX3_next, Cond.instanceMethod yX3_next, Cond.selects RX3 yX3_next yX3_next, Cond.code yX3_next cX3_next 3 (some .int), Cond.methodLink RX3 93 yX3_bars, Cond.instanceMethod yX3_bars, Cond.selects RX3 yX3_bars yX3_bars, Cond.code yX3_bars cX3_bars 2 (some .int)]
def wsL_law_r17 : List Cond := [Cond.methodLink RX3 96 yX3_goes, Cond.instanceMethod yX3_goes, Cond.selects RX3 yX3_goes yX3_goes, Cond.code yX3_goes cX3_goes 5 (some .int), Cond.methodLink RL 99 yX2_previous, Cond.instanceMethod yX2_previous, Cond.selects RX2 yX2_previous yX2_previous, Cond.code yX2_previous cX2_previous 2 (some .int), Cond.methodLink RL 102 yX3_previous, Cond.instanceMethod yX3_previous, Cond.selects RX3 yX3_previous yX3_previous, Cond.code yX3_previous cX3_previous 3 (some .int), Cond.methodLink RL 103 yX2_side, Cond.instanceMethod yX2_side, Cond.selects RX2 yX2_side yX2_side, Cond.code yX2_side cX2_side 5 (some .int), Cond.methodLink RL 106 yX3_side, Cond.instanceMethod yX3_side, Cond.selects RX3 yX3_side yX3_side, Cond.code yX3_side cX3_side 4 (some .int), Cond.methodLink RL 107 yX2_change, Cond.instanceMethod yX2_change, Cond.selects RX2 yX2_change yX2_change, Cond.code yX2_change cX2_change 7 (some .int)]
def wsL_law_r18 : List Cond := [Cond.methodLink RX2 132 yX2_handFault, Cond.instanceMethod yX2_handFault, Cond.selects RX2 yX2_handFault yX2_handFault, Cond.code yX2_handFault cX2_handFault 3 (some .int), Cond.methodLink RL 110 yX3_change, Cond.instanceMethod yX3_change, Cond.selects RX3 yX3_change yX3_change, Cond.code yX3_change cX3_change 5 (some .int), Cond.methodLink RX3 100 yX3_barsHand, Cond.instanceMethod yX3_barsHand, Cond.selects RX3 yX3_barsHand yX3_barsHand, Cond.code yX3_barsHand cX3_barsHand 3 (some .int), Cond.methodLink RL 111 yX2_add, Cond.instanceMethod yX2_add, Cond.selects RX2 yX2_add yX2_add, Cond.code yX2_add cX2_add 5 (some .int), Cond.methodLink RL 114 yX3_add, Cond.instanceMethod yX3_add, Cond.selects RX3 yX3_add yX3_add, Cond.code yX3_add cX3_add 5 (some .int), Cond.methodLink RL 115 yX2_remove, Cond.instanceMethod yX2_remove, Cond.selects RX2 yX2_remove yX2_remove, Cond.code yX2_remove cX2_remove 6 (some .int)]
def wsL_law_r19 : List Cond := [Cond.methodLink RL 118 yX3_remove, Cond.instanceMethod yX3_remove, Cond.selects RX3 yX3_remove yX3_remove, Cond.code yX3_remove cX3_remove 4 (some .int), Cond.methodLink RL 119 yX2_old, Cond.instanceMethod yX2_old, Cond.selects RX2 yX2_old yX2_old, Cond.code yX2_old cX2_old 3 (some .int), Cond.methodLink RX2 142 yX0_isOld, Cond.instanceMethod yX0_isOld, Cond.selects RX0 yX0_isOld yX0_isOld, Cond.code yX0_isOld cX0_isOld 1 (some .boolean), Cond.methodLink RL 122 yX3_old, Cond.instanceMethod yX3_old, Cond.selects RX3 yX3_old yX3_old, Cond.code yX3_old cX3_old 2 (some .int), Cond.methodLink RL 123 yX2_count, Cond.instanceMethod yX2_count, Cond.selects RX2 yX2_count yX2_count, Cond.code yX2_count cX2_count 2 (some .int), Cond.methodLink RX2 161 yX2_standingPegs, Cond.instanceMethod yX2_standingPegs, Cond.selects RX2 yX2_standingPegs yX2_standingPegs, Cond.code yX2_standingPegs cX2_standingPegs 3 (some .int)]
def wsL_law_r20 : List Cond := [Cond.methodLink RX2 164 yX2_oldPegs, Cond.instanceMethod yX2_oldPegs, Cond.selects RX2 yX2_oldPegs yX2_oldPegs, Cond.code yX2_oldPegs cX2_oldPegs 3 (some .int), Cond.methodLink RL 126 yX3_count, Cond.instanceMethod yX3_count, Cond.selects RX3 yX3_count yX3_count, Cond.code yX3_count cX3_count 2 (some .int), Cond.methodLink RX3 103 yX3_standing, Cond.instanceMethod yX3_standing, Cond.selects RX3 yX3_standing yX3_standing, Cond.code yX3_standing cX3_standing 3 (some .int)]
def wsL_law : List Cond := (wsL_law_r1 ++ (wsL_law_r2 ++ (wsL_law_r3 ++ (wsL_law_r4 ++ (wsL_law_r5 ++ (wsL_law_r6 ++ (wsL_law_r7 ++ (wsL_law_r8 ++ (wsL_law_r9 ++ (wsL_law_r10 ++ (wsL_law_r11 ++ (wsL_law_r12 ++ (wsL_law_r13 ++ (wsL_law_r14 ++ (wsL_law_r15 ++ (wsL_law_r16 ++ (wsL_law_r17 ++ (wsL_law_r18 ++ (wsL_law_r19 ++ wsL_law_r20))))))))))))))))))) ++ wsX20 ++ wsX30 ++ wsX10 ++ wsX00 ++ ([] : List Cond)
abbrev vwCl : List vw_C := [(RX0, TX0, 6), (RX1, TX1, 3), (RX2, TX2, 7), (RX3, TX3, 11)]
end
section
theorem mem_pl {big : List Cond} (ws : List Cond) (ps : List Nat) (hp : ws = ps.filterMap (fun i => big[i]?)) : ∀ w ∈ ws, w ∈ big := by
  intro w hw
  rw [hp] at hw
  obtain ⟨i, -, hi⟩ := List.mem_filterMap.mp hw
  exact List.mem_of_getElem? hi
theorem mem_ap {big a b : List Cond} (ha : ∀ w ∈ a, w ∈ big) (hb : ∀ w ∈ b, w ∈ big) : ∀ w ∈ a ++ b, w ∈ big := fun w h => (List.mem_append.mp h).elim (ha w) (hb w)
set_option maxRecDepth 20000 in
theorem inT_wsL_law_r1 : ∀ w ∈ wsL_law_r1, w ∈ lw_tbl := mem_pl _ [28, 29, 23, 350, 351, 26, 30, 31, 32, 33, 34, 35, 36, 89, 38, 90, 40, 24, 59, 25, 42, 43, 44, 58] (by decide +kernel)
set_option maxRecDepth 20000 in
theorem inT_wsL_law_r2 : ∀ w ∈ wsL_law_r2, w ∈ lw_tbl := mem_pl _ [45, 61, 62, 63, 70, 352, 353, 354, 355, 356, 357, 359, 360, 361, 362, 363, 364, 365, 366, 111, 112, 113, 114, 115] (by decide +kernel)
set_option maxRecDepth 20000 in
theorem inT_wsL_law_r3 : ∀ w ∈ wsL_law_r3, w ∈ lw_tbl := mem_pl _ [117, 0, 118, 119, 120, 121, 122, 123, 124, 125, 46, 126, 128, 1, 129, 91, 130, 131, 132, 133, 134, 136, 2, 137] (by decide +kernel)
set_option maxRecDepth 20000 in
theorem inT_wsL_law_r4 : ∀ w ∈ wsL_law_r4, w ∈ lw_tbl := mem_pl _ [49, 390, 391, 392, 393, 394, 395, 396, 397, 398, 399, 400, 401, 402, 403, 405, 10, 406, 358, 407, 409, 11, 410, 411] (by decide +kernel)
set_option maxRecDepth 20000 in
theorem inT_wsL_law_r5 : ∀ w ∈ wsL_law_r5, w ∈ lw_tbl := mem_pl _ [413, 12, 414, 415, 417, 13, 418, 138, 139, 140, 141, 142, 143, 144, 145, 147, 3, 148, 149, 151, 4, 152, 92, 93] (by decide +kernel)
set_option maxRecDepth 20000 in
theorem inT_wsL_law_r6 : ∀ w ∈ wsL_law_r6, w ∈ lw_tbl := mem_pl _ [94, 95, 153, 154, 155, 156, 419, 420, 421, 422, 423, 425, 14, 426, 157, 158, 159, 160, 161, 162, 163, 164, 165, 166] (by decide +kernel)
set_option maxRecDepth 20000 in
theorem inT_wsL_law_r7 : ∀ w ∈ wsL_law_r7, w ∈ lw_tbl := mem_pl _ [167, 168, 427, 428, 429, 430, 431, 433, 15, 434, 169, 170, 171, 172, 173, 174, 175, 176, 435, 436, 437, 438, 177, 178] (by decide +kernel)
set_option maxRecDepth 20000 in
theorem inT_wsL_law_r8 : ∀ w ∈ wsL_law_r8, w ∈ lw_tbl := mem_pl _ [179, 180, 181, 182, 183, 184, 439, 440, 441, 442, 185, 186, 187, 188, 189, 190, 191, 192, 443, 444, 445, 446, 193, 194] (by decide +kernel)
set_option maxRecDepth 20000 in
theorem inT_wsL_law_r9 : ∀ w ∈ wsL_law_r9, w ∈ lw_tbl := mem_pl _ [195, 196, 447, 448, 449, 450, 197, 198, 199, 200, 201, 202, 203, 204, 451, 452, 453, 454, 455, 457, 16, 458, 205, 206] (by decide +kernel)
set_option maxRecDepth 20000 in
theorem inT_wsL_law_r10 : ∀ w ∈ wsL_law_r10, w ∈ lw_tbl := mem_pl _ [207, 208, 209, 210, 211, 459, 460, 461, 462, 212, 213, 214, 215, 463, 464, 465, 466, 216, 217, 218, 219, 220, 221, 222] (by decide +kernel)
set_option maxRecDepth 20000 in
theorem inT_wsL_law_r11 : ∀ w ∈ wsL_law_r11, w ∈ lw_tbl := mem_pl _ [223, 467, 468, 469, 470, 471, 472, 473, 224, 225, 226, 227, 228, 474, 475, 476, 477, 229, 230, 231, 232, 233, 234, 235] (by decide +kernel)
set_option maxRecDepth 20000 in
theorem inT_wsL_law_r12 : ∀ w ∈ wsL_law_r12, w ∈ lw_tbl := mem_pl _ [236, 64, 237, 238, 239, 240, 478, 479, 480, 481, 482, 484, 17, 485, 241, 242, 243, 244, 245, 246, 247, 248, 249, 486] (by decide +kernel)
set_option maxRecDepth 20000 in
theorem inT_wsL_law_r13 : ∀ w ∈ wsL_law_r13, w ∈ lw_tbl := mem_pl _ [487, 488, 489, 250, 251, 252, 253, 254, 255, 256, 257, 258, 259, 27, 260, 490, 491, 492, 493, 261, 262, 263, 264, 265] (by decide +kernel)
set_option maxRecDepth 20000 in
theorem inT_wsL_law_r14 : ∀ w ∈ wsL_law_r14, w ∈ lw_tbl := mem_pl _ [266, 267, 268, 494, 495, 496, 497, 269, 270, 271, 272, 498, 499, 500, 501, 273, 274, 275, 276, 277, 278, 279, 280, 281] (by decide +kernel)
set_option maxRecDepth 20000 in
theorem inT_wsL_law_r15 : ∀ w ∈ wsL_law_r15, w ∈ lw_tbl := mem_pl _ [502, 503, 504, 505, 506, 282, 283, 284, 285, 286, 288, 5, 289, 290, 291, 292, 293, 66, 68, 74, 507, 508, 509, 510] (by decide +kernel)
set_option maxRecDepth 20000 in
theorem inT_wsL_law_r16 : ∀ w ∈ wsL_law_r16, w ∈ lw_tbl := mem_pl _ [511, 512, 513, 294, 295, 296, 297, 298, 300, 6, 301, 302, 303, 304, 305, 72, 514, 515, 516, 517, 518, 520, 18, 521] (by decide +kernel)
set_option maxRecDepth 20000 in
theorem inT_wsL_law_r17 : ∀ w ∈ wsL_law_r17, w ∈ lw_tbl := mem_pl _ [522, 524, 19, 525, 306, 307, 308, 309, 526, 527, 528, 529, 310, 311, 312, 313, 530, 531, 532, 533, 314, 315, 316, 317] (by decide +kernel)
set_option maxRecDepth 20000 in
theorem inT_wsL_law_r18 : ∀ w ∈ wsL_law_r18, w ∈ lw_tbl := mem_pl _ [318, 320, 7, 321, 534, 535, 536, 537, 538, 540, 20, 541, 322, 323, 324, 325, 542, 543, 544, 545, 326, 327, 328, 329] (by decide +kernel)
set_option maxRecDepth 20000 in
theorem inT_wsL_law_r19 : ∀ w ∈ wsL_law_r19, w ∈ lw_tbl := mem_pl _ [546, 547, 548, 549, 330, 331, 332, 333, 334, 335, 336, 337, 550, 551, 552, 553, 338, 339, 340, 341, 342, 344, 8, 345] (by decide +kernel)
set_option maxRecDepth 20000 in
theorem inT_wsL_law_r20 : ∀ w ∈ wsL_law_r20, w ∈ lw_tbl := mem_pl _ [346, 348, 9, 349, 554, 555, 556, 557, 558, 560, 21, 561] (by decide +kernel)
set_option maxRecDepth 20000 in
theorem inT_wsX00 : ∀ w ∈ wsX00, w ∈ lw_tbl := mem_pl _ [76, 78, 80, 82, 84, 86] (by decide +kernel)
set_option maxRecDepth 20000 in
theorem inT_wsX10 : ∀ w ∈ wsX10, w ∈ lw_tbl := mem_pl _ [51, 53, 55] (by decide +kernel)
set_option maxRecDepth 20000 in
theorem inT_wsX20 : ∀ w ∈ wsX20, w ∈ lw_tbl := mem_pl _ [96, 98, 100, 102, 104, 106, 108] (by decide +kernel)
set_option maxRecDepth 20000 in
theorem inT_wsX30 : ∀ w ∈ wsX30, w ∈ lw_tbl := mem_pl _ [367, 369, 371, 373, 375, 377, 379, 381, 383, 385, 387] (by decide +kernel)
theorem wsL_law_in : ∀ w ∈ wsL_law, w ∈ lw_tbl := (mem_ap (mem_ap (mem_ap (mem_ap (mem_ap (mem_ap inT_wsL_law_r1 (mem_ap inT_wsL_law_r2 (mem_ap inT_wsL_law_r3 (mem_ap inT_wsL_law_r4 (mem_ap inT_wsL_law_r5 (mem_ap inT_wsL_law_r6 (mem_ap inT_wsL_law_r7 (mem_ap inT_wsL_law_r8 (mem_ap inT_wsL_law_r9 (mem_ap inT_wsL_law_r10 (mem_ap inT_wsL_law_r11 (mem_ap inT_wsL_law_r12 (mem_ap inT_wsL_law_r13 (mem_ap inT_wsL_law_r14 (mem_ap inT_wsL_law_r15 (mem_ap inT_wsL_law_r16 (mem_ap inT_wsL_law_r17 (mem_ap inT_wsL_law_r18 (mem_ap inT_wsL_law_r19 inT_wsL_law_r20))))))))))))))))))) inT_wsX20) inT_wsX30) inT_wsX10) inT_wsX00) (fun _ h => by cases h))
theorem inlX0 : ∀ w ∈ wsX00, w ∈ wsL_law := fun _ h => List.mem_append_left _ (List.mem_append_right _ h)
theorem inX0 : ∀ w ∈ wsX00, w ∈ lw_tbl := fun w h => wsL_law_in w (inlX0 w h)
theorem inlX1 : ∀ w ∈ wsX10, w ∈ wsL_law := fun _ h => List.mem_append_left _ (List.mem_append_left _ (List.mem_append_right _ h))
theorem inX1 : ∀ w ∈ wsX10, w ∈ lw_tbl := fun w h => wsL_law_in w (inlX1 w h)
theorem inlX2 : ∀ w ∈ wsX20, w ∈ wsL_law := fun _ h => List.mem_append_left _ (List.mem_append_left _ (List.mem_append_left _ (List.mem_append_left _ (List.mem_append_right _ h))))
theorem inX2 : ∀ w ∈ wsX20, w ∈ lw_tbl := fun w h => wsL_law_in w (inlX2 w h)
theorem inlX3 : ∀ w ∈ wsX30, w ∈ wsL_law := fun _ h => List.mem_append_left _ (List.mem_append_left _ (List.mem_append_left _ (List.mem_append_right _ h)))
theorem inX3 : ∀ w ∈ wsX30, w ∈ lw_tbl := fun w h => wsL_law_in w (inlX3 w h)
end
section
theorem dX0_init_0 : decode cX0_init 0 = .ok (.aload_n 0, 1) := by decide +kernel
theorem dX0_init_1 : decode cX0_init 1 = .ok (.invokespecial 3, 3) := by decide +kernel
theorem dX0_init_4 : decode cX0_init 4 = .ok (.aload_n 0, 1) := by decide +kernel
theorem dX0_init_5 : decode cX0_init 5 = .ok (.iconst (-1), 1) := by decide +kernel
theorem dX0_init_6 : decode cX0_init 6 = .ok (.putfield 9, 3) := by decide +kernel
theorem dX0_init_9 : decode cX0_init 9 = .ok (.return_, 1) := by decide +kernel
theorem dX0_standIn_0 : decode cX0_standIn 0 = .ok (.aload_n 0, 1) := by decide +kernel
theorem dX0_standIn_1 : decode cX0_standIn 1 = .ok (.aload_n 1, 1) := by decide +kernel
theorem dX0_standIn_2 : decode cX0_standIn 2 = .ok (.putfield 15, 3) := by decide +kernel
theorem dX0_standIn_5 : decode cX0_standIn 5 = .ok (.aload_n 0, 1) := by decide +kernel
theorem dX0_standIn_6 : decode cX0_standIn 6 = .ok (.iload_n 2, 1) := by decide +kernel
theorem dX0_standIn_7 : decode cX0_standIn 7 = .ok (.putfield 19, 3) := by decide +kernel
theorem dX0_standIn_10 : decode cX0_standIn 10 = .ok (.aload_n 0, 1) := by decide +kernel
theorem dX0_standIn_11 : decode cX0_standIn 11 = .ok (.aload_n 1, 1) := by decide +kernel
theorem dX0_standIn_12 : decode cX0_standIn 12 = .ok (.getfield 22, 3) := by decide +kernel
theorem dX0_standIn_15 : decode cX0_standIn 15 = .ok (.putfield 27, 3) := by decide +kernel
theorem dX0_standIn_18 : decode cX0_standIn 18 = .ok (.aload_n 0, 1) := by decide +kernel
theorem dX0_standIn_19 : decode cX0_standIn 19 = .ok (.iconst (-1), 1) := by decide +kernel
theorem dX0_standIn_20 : decode cX0_standIn 20 = .ok (.putfield 9, 3) := by decide +kernel
theorem dX0_standIn_23 : decode cX0_standIn 23 = .ok (.aload_n 0, 1) := by decide +kernel
theorem dX0_standIn_24 : decode cX0_standIn 24 = .ok (.iconst 0, 1) := by decide +kernel
theorem dX0_standIn_25 : decode cX0_standIn 25 = .ok (.putfield 30, 3) := by decide +kernel
theorem dX0_standIn_28 : decode cX0_standIn 28 = .ok (.return_, 1) := by decide +kernel
theorem dX0_leave_0 : decode cX0_leave 0 = .ok (.aload_n 0, 1) := by decide +kernel
theorem dX0_leave_1 : decode cX0_leave 1 = .ok (.getfield 15, 3) := by decide +kernel
theorem dX0_leave_4 : decode cX0_leave 4 = .ok (.aload_n 1, 1) := by decide +kernel
theorem dX0_leave_5 : decode cX0_leave 5 = .ok (.if_acmp .ne 8, 3) := by decide +kernel
theorem dX0_leave_8 : decode cX0_leave 8 = .ok (.aload_n 0, 1) := by decide +kernel
theorem dX0_leave_9 : decode cX0_leave 9 = .ok (.aconst_null, 1) := by decide +kernel
theorem dX0_leave_10 : decode cX0_leave 10 = .ok (.putfield 15, 3) := by decide +kernel
theorem dX0_leave_13 : decode cX0_leave 13 = .ok (.return_, 1) := by decide +kernel
theorem dX0_hold_0 : decode cX0_hold 0 = .ok (.aload_n 0, 1) := by decide +kernel
theorem dX0_hold_1 : decode cX0_hold 1 = .ok (.iload_n 1, 1) := by decide +kernel
theorem dX0_hold_2 : decode cX0_hold 2 = .ok (.putfield 9, 3) := by decide +kernel
theorem dX0_hold_5 : decode cX0_hold 5 = .ok (.aload_n 0, 1) := by decide +kernel
theorem dX0_hold_6 : decode cX0_hold 6 = .ok (.iload_n 2, 1) := by decide +kernel
theorem dX0_hold_7 : decode cX0_hold 7 = .ok (.putfield 34, 3) := by decide +kernel
theorem dX0_hold_10 : decode cX0_hold 10 = .ok (.aload_n 0, 1) := by decide +kernel
theorem dX0_hold_11 : decode cX0_hold 11 = .ok (.iconst 0, 1) := by decide +kernel
theorem dX0_hold_12 : decode cX0_hold 12 = .ok (.putfield 30, 3) := by decide +kernel
theorem dX0_hold_15 : decode cX0_hold 15 = .ok (.iload_n 2, 1) := by decide +kernel
theorem dX0_hold_16 : decode cX0_hold 16 = .ok (.ireturn, 1) := by decide +kernel
theorem dX0_isOld_0 : decode cX0_isOld 0 = .ok (.aload_n 0, 1) := by decide +kernel
theorem dX0_isOld_1 : decode cX0_isOld 1 = .ok (.getfield 15, 3) := by decide +kernel
theorem dX0_isOld_4 : decode cX0_isOld 4 = .ok (.ifnull 21, 3) := by decide +kernel
theorem dX0_isOld_7 : decode cX0_isOld 7 = .ok (.aload_n 0, 1) := by decide +kernel
theorem dX0_isOld_8 : decode cX0_isOld 8 = .ok (.getfield 27, 3) := by decide +kernel
theorem dX0_isOld_11 : decode cX0_isOld 11 = .ok (.aload_n 0, 1) := by decide +kernel
theorem dX0_isOld_12 : decode cX0_isOld 12 = .ok (.getfield 15, 3) := by decide +kernel
theorem dX0_isOld_15 : decode cX0_isOld 15 = .ok (.getfield 22, 3) := by decide +kernel
theorem dX0_isOld_18 : decode cX0_isOld 18 = .ok (.if_icmp .eq 7, 3) := by decide +kernel
theorem dX0_isOld_21 : decode cX0_isOld 21 = .ok (.iconst 1, 1) := by decide +kernel
theorem dX0_isOld_22 : decode cX0_isOld 22 = .ok (.goto 4, 3) := by decide +kernel
theorem dX0_isOld_25 : decode cX0_isOld 25 = .ok (.iconst 0, 1) := by decide +kernel
theorem dX0_isOld_26 : decode cX0_isOld 26 = .ok (.ireturn, 1) := by decide +kernel
theorem dX1_init_0 : decode cX1_init 0 = .ok (.aload_n 0, 1) := by decide +kernel
theorem dX1_init_1 : decode cX1_init 1 = .ok (.invokespecial 3, 3) := by decide +kernel
theorem dX1_init_4 : decode cX1_init 4 = .ok (.aload_n 0, 1) := by decide +kernel
theorem dX1_init_5 : decode cX1_init 5 = .ok (.bipush 60, 2) := by decide +kernel
theorem dX1_init_7 : decode cX1_init 7 = .ok (.newarray .int, 2) := by decide +kernel
theorem dX1_init_9 : decode cX1_init 9 = .ok (.putfield 9, 3) := by decide +kernel
theorem dX1_init_12 : decode cX1_init 12 = .ok (.return_, 1) := by decide +kernel
theorem dX1_hasThingAt_0 : decode cX1_hasThingAt 0 = .ok (.iload_n 1, 1) := by decide +kernel
theorem dX1_hasThingAt_1 : decode cX1_hasThingAt 1 = .ok (.ifCond .lt 15, 3) := by decide +kernel
theorem dX1_hasThingAt_4 : decode cX1_hasThingAt 4 = .ok (.iload_n 1, 1) := by decide +kernel
theorem dX1_hasThingAt_5 : decode cX1_hasThingAt 5 = .ok (.aload_n 0, 1) := by decide +kernel
theorem dX1_hasThingAt_6 : decode cX1_hasThingAt 6 = .ok (.getfield 15, 3) := by decide +kernel
theorem dX1_hasThingAt_9 : decode cX1_hasThingAt 9 = .ok (.if_icmp .ge 7, 3) := by decide +kernel
theorem dX1_hasThingAt_12 : decode cX1_hasThingAt 12 = .ok (.iconst 1, 1) := by decide +kernel
theorem dX1_hasThingAt_13 : decode cX1_hasThingAt 13 = .ok (.goto 4, 3) := by decide +kernel
theorem dX1_hasThingAt_16 : decode cX1_hasThingAt 16 = .ok (.iconst 0, 1) := by decide +kernel
theorem dX1_hasThingAt_17 : decode cX1_hasThingAt 17 = .ok (.ireturn, 1) := by decide +kernel
theorem dX1_canPutAt_0 : decode cX1_canPutAt 0 = .ok (.iload_n 1, 1) := by decide +kernel
theorem dX1_canPutAt_1 : decode cX1_canPutAt 1 = .ok (.ifCond .lt 15, 3) := by decide +kernel
theorem dX1_canPutAt_4 : decode cX1_canPutAt 4 = .ok (.iload_n 1, 1) := by decide +kernel
theorem dX1_canPutAt_5 : decode cX1_canPutAt 5 = .ok (.aload_n 0, 1) := by decide +kernel
theorem dX1_canPutAt_6 : decode cX1_canPutAt 6 = .ok (.getfield 15, 3) := by decide +kernel
theorem dX1_canPutAt_9 : decode cX1_canPutAt 9 = .ok (.if_icmp .gt 7, 3) := by decide +kernel
theorem dX1_canPutAt_12 : decode cX1_canPutAt 12 = .ok (.iconst 1, 1) := by decide +kernel
theorem dX1_canPutAt_13 : decode cX1_canPutAt 13 = .ok (.goto 4, 3) := by decide +kernel
theorem dX1_canPutAt_16 : decode cX1_canPutAt 16 = .ok (.iconst 0, 1) := by decide +kernel
theorem dX1_canPutAt_17 : decode cX1_canPutAt 17 = .ok (.ireturn, 1) := by decide +kernel
theorem dX1_hasRoomFor_0 : decode cX1_hasRoomFor 0 = .ok (.aload_n 0, 1) := by decide +kernel
theorem dX1_hasRoomFor_1 : decode cX1_hasRoomFor 1 = .ok (.getfield 15, 3) := by decide +kernel
theorem dX1_hasRoomFor_4 : decode cX1_hasRoomFor 4 = .ok (.iload_n 1, 1) := by decide +kernel
theorem dX1_hasRoomFor_5 : decode cX1_hasRoomFor 5 = .ok (.iadd, 1) := by decide +kernel
theorem dX1_hasRoomFor_6 : decode cX1_hasRoomFor 6 = .ok (.bipush 60, 2) := by decide +kernel
theorem dX1_hasRoomFor_8 : decode cX1_hasRoomFor 8 = .ok (.if_icmp .gt 7, 3) := by decide +kernel
theorem dX1_hasRoomFor_11 : decode cX1_hasRoomFor 11 = .ok (.iconst 1, 1) := by decide +kernel
theorem dX1_hasRoomFor_12 : decode cX1_hasRoomFor 12 = .ok (.goto 4, 3) := by decide +kernel
theorem dX1_hasRoomFor_15 : decode cX1_hasRoomFor 15 = .ok (.iconst 0, 1) := by decide +kernel
theorem dX1_hasRoomFor_16 : decode cX1_hasRoomFor 16 = .ok (.ireturn, 1) := by decide +kernel
theorem dX1_thingAt_0 : decode cX1_thingAt 0 = .ok (.aload_n 0, 1) := by decide +kernel
theorem dX1_thingAt_1 : decode cX1_thingAt 1 = .ok (.getfield 9, 3) := by decide +kernel
theorem dX1_thingAt_4 : decode cX1_thingAt 4 = .ok (.iload_n 1, 1) := by decide +kernel
theorem dX1_thingAt_5 : decode cX1_thingAt 5 = .ok (.iaload, 1) := by decide +kernel
theorem dX1_thingAt_6 : decode cX1_thingAt 6 = .ok (.ireturn, 1) := by decide +kernel
theorem dX1_layAt_0 : decode cX1_layAt 0 = .ok (.aload_n 0, 1) := by decide +kernel
theorem dX1_layAt_1 : decode cX1_layAt 1 = .ok (.getfield 9, 3) := by decide +kernel
theorem dX1_layAt_4 : decode cX1_layAt 4 = .ok (.iload_n 1, 1) := by decide +kernel
theorem dX1_layAt_5 : decode cX1_layAt 5 = .ok (.iaload, 1) := by decide +kernel
theorem dX1_layAt_6 : decode cX1_layAt 6 = .ok (.istore_n 3, 1) := by decide +kernel
theorem dX1_layAt_7 : decode cX1_layAt 7 = .ok (.aload_n 0, 1) := by decide +kernel
theorem dX1_layAt_8 : decode cX1_layAt 8 = .ok (.getfield 9, 3) := by decide +kernel
theorem dX1_layAt_11 : decode cX1_layAt 11 = .ok (.iload_n 1, 1) := by decide +kernel
theorem dX1_layAt_12 : decode cX1_layAt 12 = .ok (.iload_n 2, 1) := by decide +kernel
theorem dX1_layAt_13 : decode cX1_layAt 13 = .ok (.iastore, 1) := by decide +kernel
theorem dX1_layAt_14 : decode cX1_layAt 14 = .ok (.iload_n 3, 1) := by decide +kernel
theorem dX1_layAt_15 : decode cX1_layAt 15 = .ok (.ireturn, 1) := by decide +kernel
set_option maxRecDepth 20000 in
theorem ggX1_putAt_X1_openAt : GoodIn wsX1_putAt wsX1_openAt := goodIn_r _ [6, 7, 1, 8, 9, 10, 11] (by decide +kernel) (by decide +kernel)
set_option maxRecDepth 20000 in
theorem gX1_putAt_X1_openAt : GoodIn wsX1_putAt (wsV RX1 19 RX1 yX1_openAt wsX1_openAt) := goodIn_app (goodIn_of _ (by decide +kernel)) ggX1_putAt_X1_openAt
theorem dX1_putAt_0 : decode cX1_putAt 0 = .ok (.aload_n 0, 1) := by decide +kernel
theorem dX1_putAt_1 : decode cX1_putAt 1 = .ok (.iload_n 1, 1) := by decide +kernel
theorem dX1_putAt_2 : decode cX1_putAt 2 = .ok (.iconst 1, 1) := by decide +kernel
theorem dX1_putAt_3 : decode cX1_putAt 3 = .ok (.invokevirtual 19, 3) := by decide +kernel
theorem dX1_putAt_6 : decode cX1_putAt 6 = .ok (.aload_n 0, 1) := by decide +kernel
theorem dX1_putAt_7 : decode cX1_putAt 7 = .ok (.getfield 9, 3) := by decide +kernel
theorem dX1_putAt_10 : decode cX1_putAt 10 = .ok (.iload_n 1, 1) := by decide +kernel
theorem dX1_putAt_11 : decode cX1_putAt 11 = .ok (.iload_n 2, 1) := by decide +kernel
theorem dX1_putAt_12 : decode cX1_putAt 12 = .ok (.iastore, 1) := by decide +kernel
theorem dX1_putAt_13 : decode cX1_putAt 13 = .ok (.return_, 1) := by decide +kernel
set_option maxRecDepth 20000 in
theorem ggX1_putAllAt_X1_openAt : GoodIn wsX1_putAllAt wsX1_openAt := goodIn_r _ [7, 1, 2, 8, 9, 10, 11] (by decide +kernel) (by decide +kernel)
set_option maxRecDepth 20000 in
theorem gX1_putAllAt_X1_openAt : GoodIn wsX1_putAllAt (wsV RX1 19 RX1 yX1_openAt wsX1_openAt) := goodIn_app (goodIn_of _ (by decide +kernel)) ggX1_putAllAt_X1_openAt
theorem dX1_putAllAt_0 : decode cX1_putAllAt 0 = .ok (.aload_n 0, 1) := by decide +kernel
theorem dX1_putAllAt_1 : decode cX1_putAllAt 1 = .ok (.iload_n 1, 1) := by decide +kernel
theorem dX1_putAllAt_2 : decode cX1_putAllAt 2 = .ok (.aload_n 2, 1) := by decide +kernel
theorem dX1_putAllAt_3 : decode cX1_putAllAt 3 = .ok (.getfield 15, 3) := by decide +kernel
theorem dX1_putAllAt_6 : decode cX1_putAllAt 6 = .ok (.invokevirtual 19, 3) := by decide +kernel
theorem dX1_putAllAt_9 : decode cX1_putAllAt 9 = .ok (.iconst 0, 1) := by decide +kernel
theorem dX1_putAllAt_10 : decode cX1_putAllAt 10 = .ok (.istore_n 3, 1) := by decide +kernel
theorem dX1_putAllAt_11 : decode cX1_putAllAt 11 = .ok (.iload_n 3, 1) := by decide +kernel
theorem dX1_putAllAt_12 : decode cX1_putAllAt 12 = .ok (.aload_n 2, 1) := by decide +kernel
theorem dX1_putAllAt_13 : decode cX1_putAllAt 13 = .ok (.getfield 15, 3) := by decide +kernel
theorem dX1_putAllAt_16 : decode cX1_putAllAt 16 = .ok (.if_icmp .ge 23, 3) := by decide +kernel
theorem dX1_putAllAt_19 : decode cX1_putAllAt 19 = .ok (.aload_n 0, 1) := by decide +kernel
theorem dX1_putAllAt_20 : decode cX1_putAllAt 20 = .ok (.getfield 9, 3) := by decide +kernel
theorem dX1_putAllAt_23 : decode cX1_putAllAt 23 = .ok (.iload_n 1, 1) := by decide +kernel
theorem dX1_putAllAt_24 : decode cX1_putAllAt 24 = .ok (.iload_n 3, 1) := by decide +kernel
theorem dX1_putAllAt_25 : decode cX1_putAllAt 25 = .ok (.iadd, 1) := by decide +kernel
theorem dX1_putAllAt_26 : decode cX1_putAllAt 26 = .ok (.aload_n 2, 1) := by decide +kernel
theorem dX1_putAllAt_27 : decode cX1_putAllAt 27 = .ok (.getfield 9, 3) := by decide +kernel
theorem dX1_putAllAt_30 : decode cX1_putAllAt 30 = .ok (.iload_n 3, 1) := by decide +kernel
theorem dX1_putAllAt_31 : decode cX1_putAllAt 31 = .ok (.iaload, 1) := by decide +kernel
theorem dX1_putAllAt_32 : decode cX1_putAllAt 32 = .ok (.iastore, 1) := by decide +kernel
theorem dX1_putAllAt_33 : decode cX1_putAllAt 33 = .ok (.iinc 3 1, 3) := by decide +kernel
theorem dX1_putAllAt_36 : decode cX1_putAllAt 36 = .ok (.goto (-25), 3) := by decide +kernel
theorem dX1_putAllAt_39 : decode cX1_putAllAt 39 = .ok (.return_, 1) := by decide +kernel
set_option maxRecDepth 20000 in
theorem ggX1_takeAt_X1_keepFirst : GoodIn wsX1_takeAt wsX1_keepFirst := goodIn_r _ [7, 2, 8, 9, 10, 11] (by decide +kernel) (by decide +kernel)
set_option maxRecDepth 20000 in
theorem gX1_takeAt_X1_keepFirst : GoodIn wsX1_takeAt (wsV RX1 23 RX1 yX1_keepFirst wsX1_keepFirst) := goodIn_app (goodIn_of _ (by decide +kernel)) ggX1_takeAt_X1_keepFirst
theorem dX1_takeAt_0 : decode cX1_takeAt 0 = .ok (.aload_n 0, 1) := by decide +kernel
theorem dX1_takeAt_1 : decode cX1_takeAt 1 = .ok (.getfield 9, 3) := by decide +kernel
theorem dX1_takeAt_4 : decode cX1_takeAt 4 = .ok (.iload_n 1, 1) := by decide +kernel
theorem dX1_takeAt_5 : decode cX1_takeAt 5 = .ok (.iaload, 1) := by decide +kernel
theorem dX1_takeAt_6 : decode cX1_takeAt 6 = .ok (.istore_n 2, 1) := by decide +kernel
theorem dX1_takeAt_7 : decode cX1_takeAt 7 = .ok (.iload_n 1, 1) := by decide +kernel
theorem dX1_takeAt_8 : decode cX1_takeAt 8 = .ok (.iconst 1, 1) := by decide +kernel
theorem dX1_takeAt_9 : decode cX1_takeAt 9 = .ok (.iadd, 1) := by decide +kernel
theorem dX1_takeAt_10 : decode cX1_takeAt 10 = .ok (.istore_n 3, 1) := by decide +kernel
theorem dX1_takeAt_11 : decode cX1_takeAt 11 = .ok (.iload_n 3, 1) := by decide +kernel
theorem dX1_takeAt_12 : decode cX1_takeAt 12 = .ok (.aload_n 0, 1) := by decide +kernel
theorem dX1_takeAt_13 : decode cX1_takeAt 13 = .ok (.getfield 15, 3) := by decide +kernel
theorem dX1_takeAt_16 : decode cX1_takeAt 16 = .ok (.if_icmp .ge 23, 3) := by decide +kernel
theorem dX1_takeAt_19 : decode cX1_takeAt 19 = .ok (.aload_n 0, 1) := by decide +kernel
theorem dX1_takeAt_20 : decode cX1_takeAt 20 = .ok (.getfield 9, 3) := by decide +kernel
theorem dX1_takeAt_23 : decode cX1_takeAt 23 = .ok (.iload_n 3, 1) := by decide +kernel
theorem dX1_takeAt_24 : decode cX1_takeAt 24 = .ok (.iconst 1, 1) := by decide +kernel
theorem dX1_takeAt_25 : decode cX1_takeAt 25 = .ok (.isub, 1) := by decide +kernel
theorem dX1_takeAt_26 : decode cX1_takeAt 26 = .ok (.aload_n 0, 1) := by decide +kernel
theorem dX1_takeAt_27 : decode cX1_takeAt 27 = .ok (.getfield 9, 3) := by decide +kernel
theorem dX1_takeAt_30 : decode cX1_takeAt 30 = .ok (.iload_n 3, 1) := by decide +kernel
theorem dX1_takeAt_31 : decode cX1_takeAt 31 = .ok (.iaload, 1) := by decide +kernel
theorem dX1_takeAt_32 : decode cX1_takeAt 32 = .ok (.iastore, 1) := by decide +kernel
theorem dX1_takeAt_33 : decode cX1_takeAt 33 = .ok (.iinc 3 1, 3) := by decide +kernel
theorem dX1_takeAt_36 : decode cX1_takeAt 36 = .ok (.goto (-25), 3) := by decide +kernel
theorem dX1_takeAt_39 : decode cX1_takeAt 39 = .ok (.aload_n 0, 1) := by decide +kernel
theorem dX1_takeAt_40 : decode cX1_takeAt 40 = .ok (.aload_n 0, 1) := by decide +kernel
theorem dX1_takeAt_41 : decode cX1_takeAt 41 = .ok (.getfield 15, 3) := by decide +kernel
theorem dX1_takeAt_44 : decode cX1_takeAt 44 = .ok (.iconst 1, 1) := by decide +kernel
theorem dX1_takeAt_45 : decode cX1_takeAt 45 = .ok (.isub, 1) := by decide +kernel
theorem dX1_takeAt_46 : decode cX1_takeAt 46 = .ok (.invokevirtual 23, 3) := by decide +kernel
theorem dX1_takeAt_49 : decode cX1_takeAt 49 = .ok (.iload_n 2, 1) := by decide +kernel
theorem dX1_takeAt_50 : decode cX1_takeAt 50 = .ok (.ireturn, 1) := by decide +kernel
theorem dX1_placeOf_0 : decode cX1_placeOf 0 = .ok (.iconst (-1), 1) := by decide +kernel
theorem dX1_placeOf_1 : decode cX1_placeOf 1 = .ok (.istore_n 3, 1) := by decide +kernel
theorem dX1_placeOf_2 : decode cX1_placeOf 2 = .ok (.iconst 0, 1) := by decide +kernel
theorem dX1_placeOf_3 : decode cX1_placeOf 3 = .ok (.istore 4, 2) := by decide +kernel
theorem dX1_placeOf_5 : decode cX1_placeOf 5 = .ok (.iload 4, 2) := by decide +kernel
theorem dX1_placeOf_7 : decode cX1_placeOf 7 = .ok (.aload_n 0, 1) := by decide +kernel
theorem dX1_placeOf_8 : decode cX1_placeOf 8 = .ok (.getfield 15, 3) := by decide +kernel
theorem dX1_placeOf_11 : decode cX1_placeOf 11 = .ok (.if_icmp .ge 35, 3) := by decide +kernel
theorem dX1_placeOf_14 : decode cX1_placeOf 14 = .ok (.iload_n 2, 1) := by decide +kernel
theorem dX1_placeOf_15 : decode cX1_placeOf 15 = .ok (.ifCond .ne 8, 3) := by decide +kernel
theorem dX1_placeOf_18 : decode cX1_placeOf 18 = .ok (.iload_n 3, 1) := by decide +kernel
theorem dX1_placeOf_19 : decode cX1_placeOf 19 = .ok (.iconst (-1), 1) := by decide +kernel
theorem dX1_placeOf_20 : decode cX1_placeOf 20 = .ok (.if_icmp .ne 26, 3) := by decide +kernel
theorem dX1_placeOf_23 : decode cX1_placeOf 23 = .ok (.aload_n 0, 1) := by decide +kernel
theorem dX1_placeOf_24 : decode cX1_placeOf 24 = .ok (.getfield 9, 3) := by decide +kernel
theorem dX1_placeOf_27 : decode cX1_placeOf 27 = .ok (.iload 4, 2) := by decide +kernel
theorem dX1_placeOf_29 : decode cX1_placeOf 29 = .ok (.iaload, 1) := by decide +kernel
theorem dX1_placeOf_30 : decode cX1_placeOf 30 = .ok (.bipush 10, 2) := by decide +kernel
theorem dX1_placeOf_32 : decode cX1_placeOf 32 = .ok (.irem, 1) := by decide +kernel
theorem dX1_placeOf_33 : decode cX1_placeOf 33 = .ok (.iload_n 1, 1) := by decide +kernel
theorem dX1_placeOf_34 : decode cX1_placeOf 34 = .ok (.if_icmp .ne 6, 3) := by decide +kernel
theorem dX1_placeOf_37 : decode cX1_placeOf 37 = .ok (.iload 4, 2) := by decide +kernel
theorem dX1_placeOf_39 : decode cX1_placeOf 39 = .ok (.istore_n 3, 1) := by decide +kernel
theorem dX1_placeOf_40 : decode cX1_placeOf 40 = .ok (.iinc 4 1, 3) := by decide +kernel
theorem dX1_placeOf_43 : decode cX1_placeOf 43 = .ok (.goto (-38), 3) := by decide +kernel
theorem dX1_placeOf_46 : decode cX1_placeOf 46 = .ok (.iload_n 3, 1) := by decide +kernel
theorem dX1_placeOf_47 : decode cX1_placeOf 47 = .ok (.ireturn, 1) := by decide +kernel
theorem dX1_keepFirst_0 : decode cX1_keepFirst 0 = .ok (.iload_n 1, 1) := by decide +kernel
theorem dX1_keepFirst_1 : decode cX1_keepFirst 1 = .ok (.aload_n 0, 1) := by decide +kernel
theorem dX1_keepFirst_2 : decode cX1_keepFirst 2 = .ok (.getfield 15, 3) := by decide +kernel
theorem dX1_keepFirst_5 : decode cX1_keepFirst 5 = .ok (.if_icmp .eq 18, 3) := by decide +kernel
theorem dX1_keepFirst_8 : decode cX1_keepFirst 8 = .ok (.aload_n 0, 1) := by decide +kernel
theorem dX1_keepFirst_9 : decode cX1_keepFirst 9 = .ok (.iload_n 1, 1) := by decide +kernel
theorem dX1_keepFirst_10 : decode cX1_keepFirst 10 = .ok (.putfield 15, 3) := by decide +kernel
theorem dX1_keepFirst_13 : decode cX1_keepFirst 13 = .ok (.aload_n 0, 1) := by decide +kernel
theorem dX1_keepFirst_14 : decode cX1_keepFirst 14 = .ok (.dup, 1) := by decide +kernel
theorem dX1_keepFirst_15 : decode cX1_keepFirst 15 = .ok (.getfield 27, 3) := by decide +kernel
theorem dX1_keepFirst_18 : decode cX1_keepFirst 18 = .ok (.iconst 1, 1) := by decide +kernel
theorem dX1_keepFirst_19 : decode cX1_keepFirst 19 = .ok (.iadd, 1) := by decide +kernel
theorem dX1_keepFirst_20 : decode cX1_keepFirst 20 = .ok (.putfield 27, 3) := by decide +kernel
theorem dX1_keepFirst_23 : decode cX1_keepFirst 23 = .ok (.return_, 1) := by decide +kernel
theorem dX1_becomeLike_0 : decode cX1_becomeLike 0 = .ok (.iconst 0, 1) := by decide +kernel
theorem dX1_becomeLike_1 : decode cX1_becomeLike 1 = .ok (.istore_n 2, 1) := by decide +kernel
theorem dX1_becomeLike_2 : decode cX1_becomeLike 2 = .ok (.iload_n 2, 1) := by decide +kernel
theorem dX1_becomeLike_3 : decode cX1_becomeLike 3 = .ok (.aload_n 1, 1) := by decide +kernel
theorem dX1_becomeLike_4 : decode cX1_becomeLike 4 = .ok (.getfield 15, 3) := by decide +kernel
theorem dX1_becomeLike_7 : decode cX1_becomeLike 7 = .ok (.if_icmp .ge 21, 3) := by decide +kernel
theorem dX1_becomeLike_10 : decode cX1_becomeLike 10 = .ok (.aload_n 0, 1) := by decide +kernel
theorem dX1_becomeLike_11 : decode cX1_becomeLike 11 = .ok (.getfield 9, 3) := by decide +kernel
theorem dX1_becomeLike_14 : decode cX1_becomeLike 14 = .ok (.iload_n 2, 1) := by decide +kernel
theorem dX1_becomeLike_15 : decode cX1_becomeLike 15 = .ok (.aload_n 1, 1) := by decide +kernel
theorem dX1_becomeLike_16 : decode cX1_becomeLike 16 = .ok (.getfield 9, 3) := by decide +kernel
theorem dX1_becomeLike_19 : decode cX1_becomeLike 19 = .ok (.iload_n 2, 1) := by decide +kernel
theorem dX1_becomeLike_20 : decode cX1_becomeLike 20 = .ok (.iaload, 1) := by decide +kernel
theorem dX1_becomeLike_21 : decode cX1_becomeLike 21 = .ok (.iastore, 1) := by decide +kernel
theorem dX1_becomeLike_22 : decode cX1_becomeLike 22 = .ok (.iinc 2 1, 3) := by decide +kernel
theorem dX1_becomeLike_25 : decode cX1_becomeLike 25 = .ok (.goto (-23), 3) := by decide +kernel
theorem dX1_becomeLike_28 : decode cX1_becomeLike 28 = .ok (.aload_n 0, 1) := by decide +kernel
theorem dX1_becomeLike_29 : decode cX1_becomeLike 29 = .ok (.aload_n 1, 1) := by decide +kernel
theorem dX1_becomeLike_30 : decode cX1_becomeLike 30 = .ok (.getfield 15, 3) := by decide +kernel
theorem dX1_becomeLike_33 : decode cX1_becomeLike 33 = .ok (.putfield 15, 3) := by decide +kernel
theorem dX1_becomeLike_36 : decode cX1_becomeLike 36 = .ok (.return_, 1) := by decide +kernel
set_option maxRecDepth 20000 in
theorem ggX1_turnRound_X1_layAt : GoodIn wsX1_turnRound wsX1_layAt := goodIn_r _ [7, 2, 8, 9, 10] (by decide +kernel) (by decide +kernel)
set_option maxRecDepth 20000 in
theorem gX1_turnRound_X1_layAt : GoodIn wsX1_turnRound (wsV RX1 30 RX1 yX1_layAt wsX1_layAt) := goodIn_app (goodIn_of _ (by decide +kernel)) ggX1_turnRound_X1_layAt
theorem dX1_turnRound_0 : decode cX1_turnRound 0 = .ok (.iconst 0, 1) := by decide +kernel
theorem dX1_turnRound_1 : decode cX1_turnRound 1 = .ok (.istore_n 1, 1) := by decide +kernel
theorem dX1_turnRound_2 : decode cX1_turnRound 2 = .ok (.iload_n 1, 1) := by decide +kernel
theorem dX1_turnRound_3 : decode cX1_turnRound 3 = .ok (.aload_n 0, 1) := by decide +kernel
theorem dX1_turnRound_4 : decode cX1_turnRound 4 = .ok (.getfield 15, 3) := by decide +kernel
theorem dX1_turnRound_7 : decode cX1_turnRound 7 = .ok (.iconst 2, 1) := by decide +kernel
theorem dX1_turnRound_8 : decode cX1_turnRound 8 = .ok (.idiv, 1) := by decide +kernel
theorem dX1_turnRound_9 : decode cX1_turnRound 9 = .ok (.if_icmp .ge 33, 3) := by decide +kernel
theorem dX1_turnRound_12 : decode cX1_turnRound 12 = .ok (.aload_n 0, 1) := by decide +kernel
theorem dX1_turnRound_13 : decode cX1_turnRound 13 = .ok (.getfield 9, 3) := by decide +kernel
theorem dX1_turnRound_16 : decode cX1_turnRound 16 = .ok (.iload_n 1, 1) := by decide +kernel
theorem dX1_turnRound_17 : decode cX1_turnRound 17 = .ok (.aload_n 0, 1) := by decide +kernel
theorem dX1_turnRound_18 : decode cX1_turnRound 18 = .ok (.aload_n 0, 1) := by decide +kernel
theorem dX1_turnRound_19 : decode cX1_turnRound 19 = .ok (.getfield 15, 3) := by decide +kernel
theorem dX1_turnRound_22 : decode cX1_turnRound 22 = .ok (.iconst 1, 1) := by decide +kernel
theorem dX1_turnRound_23 : decode cX1_turnRound 23 = .ok (.isub, 1) := by decide +kernel
theorem dX1_turnRound_24 : decode cX1_turnRound 24 = .ok (.iload_n 1, 1) := by decide +kernel
theorem dX1_turnRound_25 : decode cX1_turnRound 25 = .ok (.isub, 1) := by decide +kernel
theorem dX1_turnRound_26 : decode cX1_turnRound 26 = .ok (.aload_n 0, 1) := by decide +kernel
theorem dX1_turnRound_27 : decode cX1_turnRound 27 = .ok (.getfield 9, 3) := by decide +kernel
theorem dX1_turnRound_30 : decode cX1_turnRound 30 = .ok (.iload_n 1, 1) := by decide +kernel
theorem dX1_turnRound_31 : decode cX1_turnRound 31 = .ok (.iaload, 1) := by decide +kernel
theorem dX1_turnRound_32 : decode cX1_turnRound 32 = .ok (.invokevirtual 30, 3) := by decide +kernel
theorem dX1_turnRound_35 : decode cX1_turnRound 35 = .ok (.iastore, 1) := by decide +kernel
theorem dX1_turnRound_36 : decode cX1_turnRound 36 = .ok (.iinc 1 1, 3) := by decide +kernel
theorem dX1_turnRound_39 : decode cX1_turnRound 39 = .ok (.goto (-37), 3) := by decide +kernel
theorem dX1_turnRound_42 : decode cX1_turnRound 42 = .ok (.return_, 1) := by decide +kernel
set_option maxRecDepth 20000 in
theorem ggX1_weaveIn_X1_openAt : GoodIn wsX1_weaveIn wsX1_openAt := goodIn_r _ [11, 1, 6, 12, 13, 14, 15] (by decide +kernel) (by decide +kernel)
set_option maxRecDepth 20000 in
theorem gX1_weaveIn_X1_openAt : GoodIn wsX1_weaveIn (wsV RX1 19 RX1 yX1_openAt wsX1_openAt) := goodIn_app (goodIn_of _ (by decide +kernel)) ggX1_weaveIn_X1_openAt
theorem dX1_weaveIn_0 : decode cX1_weaveIn 0 = .ok (.aload_n 0, 1) := by decide +kernel
theorem dX1_weaveIn_1 : decode cX1_weaveIn 1 = .ok (.getfield 15, 3) := by decide +kernel
theorem dX1_weaveIn_4 : decode cX1_weaveIn 4 = .ok (.aload_n 1, 1) := by decide +kernel
theorem dX1_weaveIn_5 : decode cX1_weaveIn 5 = .ok (.getfield 15, 3) := by decide +kernel
theorem dX1_weaveIn_8 : decode cX1_weaveIn 8 = .ok (.invokestatic 34, 3) := by decide +kernel
theorem dX1_weaveIn_11 : decode cX1_weaveIn 11 = .ok (.istore_n 2, 1) := by decide +kernel
theorem dX1_weaveIn_12 : decode cX1_weaveIn 12 = .ok (.aload_n 0, 1) := by decide +kernel
theorem dX1_weaveIn_13 : decode cX1_weaveIn 13 = .ok (.iload_n 2, 1) := by decide +kernel
theorem dX1_weaveIn_14 : decode cX1_weaveIn 14 = .ok (.aload_n 1, 1) := by decide +kernel
theorem dX1_weaveIn_15 : decode cX1_weaveIn 15 = .ok (.getfield 15, 3) := by decide +kernel
theorem dX1_weaveIn_18 : decode cX1_weaveIn 18 = .ok (.invokevirtual 19, 3) := by decide +kernel
theorem dX1_weaveIn_21 : decode cX1_weaveIn 21 = .ok (.iload_n 2, 1) := by decide +kernel
theorem dX1_weaveIn_22 : decode cX1_weaveIn 22 = .ok (.istore_n 3, 1) := by decide +kernel
theorem dX1_weaveIn_23 : decode cX1_weaveIn 23 = .ok (.iload_n 3, 1) := by decide +kernel
theorem dX1_weaveIn_24 : decode cX1_weaveIn 24 = .ok (.aload_n 1, 1) := by decide +kernel
theorem dX1_weaveIn_25 : decode cX1_weaveIn 25 = .ok (.getfield 15, 3) := by decide +kernel
theorem dX1_weaveIn_28 : decode cX1_weaveIn 28 = .ok (.if_icmp .ge 23, 3) := by decide +kernel
theorem dX1_weaveIn_31 : decode cX1_weaveIn 31 = .ok (.aload_n 0, 1) := by decide +kernel
theorem dX1_weaveIn_32 : decode cX1_weaveIn 32 = .ok (.getfield 9, 3) := by decide +kernel
theorem dX1_weaveIn_35 : decode cX1_weaveIn 35 = .ok (.iload_n 2, 1) := by decide +kernel
theorem dX1_weaveIn_36 : decode cX1_weaveIn 36 = .ok (.iload_n 3, 1) := by decide +kernel
theorem dX1_weaveIn_37 : decode cX1_weaveIn 37 = .ok (.iadd, 1) := by decide +kernel
theorem dX1_weaveIn_38 : decode cX1_weaveIn 38 = .ok (.aload_n 1, 1) := by decide +kernel
theorem dX1_weaveIn_39 : decode cX1_weaveIn 39 = .ok (.getfield 9, 3) := by decide +kernel
theorem dX1_weaveIn_42 : decode cX1_weaveIn 42 = .ok (.iload_n 3, 1) := by decide +kernel
theorem dX1_weaveIn_43 : decode cX1_weaveIn 43 = .ok (.iaload, 1) := by decide +kernel
theorem dX1_weaveIn_44 : decode cX1_weaveIn 44 = .ok (.iastore, 1) := by decide +kernel
theorem dX1_weaveIn_45 : decode cX1_weaveIn 45 = .ok (.iinc 3 1, 3) := by decide +kernel
theorem dX1_weaveIn_48 : decode cX1_weaveIn 48 = .ok (.goto (-25), 3) := by decide +kernel
theorem dX1_weaveIn_51 : decode cX1_weaveIn 51 = .ok (.iload_n 2, 1) := by decide +kernel
theorem dX1_weaveIn_52 : decode cX1_weaveIn 52 = .ok (.iconst 1, 1) := by decide +kernel
theorem dX1_weaveIn_53 : decode cX1_weaveIn 53 = .ok (.isub, 1) := by decide +kernel
theorem dX1_weaveIn_54 : decode cX1_weaveIn 54 = .ok (.istore_n 3, 1) := by decide +kernel
theorem dX1_weaveIn_55 : decode cX1_weaveIn 55 = .ok (.iload_n 3, 1) := by decide +kernel
theorem dX1_weaveIn_56 : decode cX1_weaveIn 56 = .ok (.ifCond .lt 39, 3) := by decide +kernel
theorem dX1_weaveIn_59 : decode cX1_weaveIn 59 = .ok (.aload_n 0, 1) := by decide +kernel
theorem dX1_weaveIn_60 : decode cX1_weaveIn 60 = .ok (.getfield 9, 3) := by decide +kernel
theorem dX1_weaveIn_63 : decode cX1_weaveIn 63 = .ok (.iconst 2, 1) := by decide +kernel
theorem dX1_weaveIn_64 : decode cX1_weaveIn 64 = .ok (.iload_n 3, 1) := by decide +kernel
theorem dX1_weaveIn_65 : decode cX1_weaveIn 65 = .ok (.imul, 1) := by decide +kernel
theorem dX1_weaveIn_66 : decode cX1_weaveIn 66 = .ok (.iconst 1, 1) := by decide +kernel
theorem dX1_weaveIn_67 : decode cX1_weaveIn 67 = .ok (.iadd, 1) := by decide +kernel
theorem dX1_weaveIn_68 : decode cX1_weaveIn 68 = .ok (.aload_n 1, 1) := by decide +kernel
theorem dX1_weaveIn_69 : decode cX1_weaveIn 69 = .ok (.getfield 9, 3) := by decide +kernel
theorem dX1_weaveIn_72 : decode cX1_weaveIn 72 = .ok (.iload_n 3, 1) := by decide +kernel
theorem dX1_weaveIn_73 : decode cX1_weaveIn 73 = .ok (.iaload, 1) := by decide +kernel
theorem dX1_weaveIn_74 : decode cX1_weaveIn 74 = .ok (.iastore, 1) := by decide +kernel
theorem dX1_weaveIn_75 : decode cX1_weaveIn 75 = .ok (.aload_n 0, 1) := by decide +kernel
theorem dX1_weaveIn_76 : decode cX1_weaveIn 76 = .ok (.getfield 9, 3) := by decide +kernel
theorem dX1_weaveIn_79 : decode cX1_weaveIn 79 = .ok (.iconst 2, 1) := by decide +kernel
theorem dX1_weaveIn_80 : decode cX1_weaveIn 80 = .ok (.iload_n 3, 1) := by decide +kernel
theorem dX1_weaveIn_81 : decode cX1_weaveIn 81 = .ok (.imul, 1) := by decide +kernel
theorem dX1_weaveIn_82 : decode cX1_weaveIn 82 = .ok (.aload_n 0, 1) := by decide +kernel
theorem dX1_weaveIn_83 : decode cX1_weaveIn 83 = .ok (.getfield 9, 3) := by decide +kernel
theorem dX1_weaveIn_86 : decode cX1_weaveIn 86 = .ok (.iload_n 3, 1) := by decide +kernel
theorem dX1_weaveIn_87 : decode cX1_weaveIn 87 = .ok (.iaload, 1) := by decide +kernel
theorem dX1_weaveIn_88 : decode cX1_weaveIn 88 = .ok (.iastore, 1) := by decide +kernel
theorem dX1_weaveIn_89 : decode cX1_weaveIn 89 = .ok (.iinc 3 (-1), 3) := by decide +kernel
theorem dX1_weaveIn_92 : decode cX1_weaveIn 92 = .ok (.goto (-37), 3) := by decide +kernel
theorem dX1_weaveIn_95 : decode cX1_weaveIn 95 = .ok (.return_, 1) := by decide +kernel
set_option maxRecDepth 20000 in
theorem ggX1_takeRepeats_X1_keepFirst : GoodIn wsX1_takeRepeats wsX1_keepFirst := goodIn_r _ [7, 1, 8, 9, 10, 11] (by decide +kernel) (by decide +kernel)
set_option maxRecDepth 20000 in
theorem gX1_takeRepeats_X1_keepFirst : GoodIn wsX1_takeRepeats (wsV RX1 23 RX1 yX1_keepFirst wsX1_keepFirst) := goodIn_app (goodIn_of _ (by decide +kernel)) ggX1_takeRepeats_X1_keepFirst
theorem dX1_takeRepeats_0 : decode cX1_takeRepeats 0 = .ok (.aload_n 0, 1) := by decide +kernel
theorem dX1_takeRepeats_1 : decode cX1_takeRepeats 1 = .ok (.getfield 15, 3) := by decide +kernel
theorem dX1_takeRepeats_4 : decode cX1_takeRepeats 4 = .ok (.istore_n 1, 1) := by decide +kernel
theorem dX1_takeRepeats_5 : decode cX1_takeRepeats 5 = .ok (.iconst 0, 1) := by decide +kernel
theorem dX1_takeRepeats_6 : decode cX1_takeRepeats 6 = .ok (.istore_n 2, 1) := by decide +kernel
theorem dX1_takeRepeats_7 : decode cX1_takeRepeats 7 = .ok (.iconst 0, 1) := by decide +kernel
theorem dX1_takeRepeats_8 : decode cX1_takeRepeats 8 = .ok (.istore_n 3, 1) := by decide +kernel
theorem dX1_takeRepeats_9 : decode cX1_takeRepeats 9 = .ok (.iconst 0, 1) := by decide +kernel
theorem dX1_takeRepeats_10 : decode cX1_takeRepeats 10 = .ok (.istore 4, 2) := by decide +kernel
theorem dX1_takeRepeats_12 : decode cX1_takeRepeats 12 = .ok (.iload 4, 2) := by decide +kernel
theorem dX1_takeRepeats_14 : decode cX1_takeRepeats 14 = .ok (.iload_n 1, 1) := by decide +kernel
theorem dX1_takeRepeats_15 : decode cX1_takeRepeats 15 = .ok (.if_icmp .ge 51, 3) := by decide +kernel
theorem dX1_takeRepeats_18 : decode cX1_takeRepeats 18 = .ok (.iconst 1, 1) := by decide +kernel
theorem dX1_takeRepeats_19 : decode cX1_takeRepeats 19 = .ok (.aload_n 0, 1) := by decide +kernel
theorem dX1_takeRepeats_20 : decode cX1_takeRepeats 20 = .ok (.getfield 9, 3) := by decide +kernel
theorem dX1_takeRepeats_23 : decode cX1_takeRepeats 23 = .ok (.iload 4, 2) := by decide +kernel
theorem dX1_takeRepeats_25 : decode cX1_takeRepeats 25 = .ok (.iaload, 1) := by decide +kernel
theorem dX1_takeRepeats_26 : decode cX1_takeRepeats 26 = .ok (.bipush 10, 2) := by decide +kernel
theorem dX1_takeRepeats_28 : decode cX1_takeRepeats 28 = .ok (.irem, 1) := by decide +kernel
theorem dX1_takeRepeats_29 : decode cX1_takeRepeats 29 = .ok (.ishl, 1) := by decide +kernel
theorem dX1_takeRepeats_30 : decode cX1_takeRepeats 30 = .ok (.istore 5, 2) := by decide +kernel
theorem dX1_takeRepeats_32 : decode cX1_takeRepeats 32 = .ok (.iload_n 3, 1) := by decide +kernel
theorem dX1_takeRepeats_33 : decode cX1_takeRepeats 33 = .ok (.iload 5, 2) := by decide +kernel
theorem dX1_takeRepeats_35 : decode cX1_takeRepeats 35 = .ok (.iand, 1) := by decide +kernel
theorem dX1_takeRepeats_36 : decode cX1_takeRepeats 36 = .ok (.ifCond .ne 24, 3) := by decide +kernel
theorem dX1_takeRepeats_39 : decode cX1_takeRepeats 39 = .ok (.iload_n 3, 1) := by decide +kernel
theorem dX1_takeRepeats_40 : decode cX1_takeRepeats 40 = .ok (.iload 5, 2) := by decide +kernel
theorem dX1_takeRepeats_42 : decode cX1_takeRepeats 42 = .ok (.ior, 1) := by decide +kernel
theorem dX1_takeRepeats_43 : decode cX1_takeRepeats 43 = .ok (.istore_n 3, 1) := by decide +kernel
theorem dX1_takeRepeats_44 : decode cX1_takeRepeats 44 = .ok (.aload_n 0, 1) := by decide +kernel
theorem dX1_takeRepeats_45 : decode cX1_takeRepeats 45 = .ok (.getfield 9, 3) := by decide +kernel
theorem dX1_takeRepeats_48 : decode cX1_takeRepeats 48 = .ok (.iload_n 2, 1) := by decide +kernel
theorem dX1_takeRepeats_49 : decode cX1_takeRepeats 49 = .ok (.aload_n 0, 1) := by decide +kernel
theorem dX1_takeRepeats_50 : decode cX1_takeRepeats 50 = .ok (.getfield 9, 3) := by decide +kernel
theorem dX1_takeRepeats_53 : decode cX1_takeRepeats 53 = .ok (.iload 4, 2) := by decide +kernel
theorem dX1_takeRepeats_55 : decode cX1_takeRepeats 55 = .ok (.iaload, 1) := by decide +kernel
theorem dX1_takeRepeats_56 : decode cX1_takeRepeats 56 = .ok (.iastore, 1) := by decide +kernel
theorem dX1_takeRepeats_57 : decode cX1_takeRepeats 57 = .ok (.iinc 2 1, 3) := by decide +kernel
theorem dX1_takeRepeats_60 : decode cX1_takeRepeats 60 = .ok (.iinc 4 1, 3) := by decide +kernel
theorem dX1_takeRepeats_63 : decode cX1_takeRepeats 63 = .ok (.goto (-51), 3) := by decide +kernel
theorem dX1_takeRepeats_66 : decode cX1_takeRepeats 66 = .ok (.aload_n 0, 1) := by decide +kernel
theorem dX1_takeRepeats_67 : decode cX1_takeRepeats 67 = .ok (.iload_n 2, 1) := by decide +kernel
theorem dX1_takeRepeats_68 : decode cX1_takeRepeats 68 = .ok (.invokevirtual 23, 3) := by decide +kernel
theorem dX1_takeRepeats_71 : decode cX1_takeRepeats 71 = .ok (.iload_n 1, 1) := by decide +kernel
theorem dX1_takeRepeats_72 : decode cX1_takeRepeats 72 = .ok (.iload_n 2, 1) := by decide +kernel
theorem dX1_takeRepeats_73 : decode cX1_takeRepeats 73 = .ok (.isub, 1) := by decide +kernel
theorem dX1_takeRepeats_74 : decode cX1_takeRepeats 74 = .ok (.ireturn, 1) := by decide +kernel
theorem dX1_number_0 : decode cX1_number 0 = .ok (.bipush 7, 2) := by decide +kernel
theorem dX1_number_2 : decode cX1_number 2 = .ok (.istore_n 1, 1) := by decide +kernel
theorem dX1_number_3 : decode cX1_number 3 = .ok (.iconst 0, 1) := by decide +kernel
theorem dX1_number_4 : decode cX1_number 4 = .ok (.istore_n 2, 1) := by decide +kernel
theorem dX1_number_5 : decode cX1_number 5 = .ok (.iload_n 2, 1) := by decide +kernel
theorem dX1_number_6 : decode cX1_number 6 = .ok (.aload_n 0, 1) := by decide +kernel
theorem dX1_number_7 : decode cX1_number 7 = .ok (.getfield 15, 3) := by decide +kernel
theorem dX1_number_10 : decode cX1_number 10 = .ok (.if_icmp .ge 24, 3) := by decide +kernel
theorem dX1_number_13 : decode cX1_number 13 = .ok (.bipush 31, 2) := by decide +kernel
theorem dX1_number_15 : decode cX1_number 15 = .ok (.iload_n 1, 1) := by decide +kernel
theorem dX1_number_16 : decode cX1_number 16 = .ok (.imul, 1) := by decide +kernel
theorem dX1_number_17 : decode cX1_number 17 = .ok (.aload_n 0, 1) := by decide +kernel
theorem dX1_number_18 : decode cX1_number 18 = .ok (.getfield 9, 3) := by decide +kernel
theorem dX1_number_21 : decode cX1_number 21 = .ok (.iload_n 2, 1) := by decide +kernel
theorem dX1_number_22 : decode cX1_number 22 = .ok (.iaload, 1) := by decide +kernel
theorem dX1_number_23 : decode cX1_number 23 = .ok (.iadd, 1) := by decide +kernel
theorem dX1_number_24 : decode cX1_number 24 = .ok (.ldc 39, 2) := by decide +kernel
theorem dX1_number_26 : decode cX1_number 26 = .ok (.irem, 1) := by decide +kernel
theorem dX1_number_27 : decode cX1_number 27 = .ok (.istore_n 1, 1) := by decide +kernel
theorem dX1_number_28 : decode cX1_number 28 = .ok (.iinc 2 1, 3) := by decide +kernel
theorem dX1_number_31 : decode cX1_number 31 = .ok (.goto (-26), 3) := by decide +kernel
theorem dX1_number_34 : decode cX1_number 34 = .ok (.iload_n 1, 1) := by decide +kernel
theorem dX1_number_35 : decode cX1_number 35 = .ok (.ireturn, 1) := by decide +kernel
theorem dX1_openAt_0 : decode cX1_openAt 0 = .ok (.aload_n 0, 1) := by decide +kernel
theorem dX1_openAt_1 : decode cX1_openAt 1 = .ok (.getfield 15, 3) := by decide +kernel
theorem dX1_openAt_4 : decode cX1_openAt 4 = .ok (.iconst 1, 1) := by decide +kernel
theorem dX1_openAt_5 : decode cX1_openAt 5 = .ok (.isub, 1) := by decide +kernel
theorem dX1_openAt_6 : decode cX1_openAt 6 = .ok (.istore_n 3, 1) := by decide +kernel
theorem dX1_openAt_7 : decode cX1_openAt 7 = .ok (.iload_n 3, 1) := by decide +kernel
theorem dX1_openAt_8 : decode cX1_openAt 8 = .ok (.iload_n 1, 1) := by decide +kernel
theorem dX1_openAt_9 : decode cX1_openAt 9 = .ok (.if_icmp .lt 23, 3) := by decide +kernel
theorem dX1_openAt_12 : decode cX1_openAt 12 = .ok (.aload_n 0, 1) := by decide +kernel
theorem dX1_openAt_13 : decode cX1_openAt 13 = .ok (.getfield 9, 3) := by decide +kernel
theorem dX1_openAt_16 : decode cX1_openAt 16 = .ok (.iload_n 3, 1) := by decide +kernel
theorem dX1_openAt_17 : decode cX1_openAt 17 = .ok (.iload_n 2, 1) := by decide +kernel
theorem dX1_openAt_18 : decode cX1_openAt 18 = .ok (.iadd, 1) := by decide +kernel
theorem dX1_openAt_19 : decode cX1_openAt 19 = .ok (.aload_n 0, 1) := by decide +kernel
theorem dX1_openAt_20 : decode cX1_openAt 20 = .ok (.getfield 9, 3) := by decide +kernel
theorem dX1_openAt_23 : decode cX1_openAt 23 = .ok (.iload_n 3, 1) := by decide +kernel
theorem dX1_openAt_24 : decode cX1_openAt 24 = .ok (.iaload, 1) := by decide +kernel
theorem dX1_openAt_25 : decode cX1_openAt 25 = .ok (.iastore, 1) := by decide +kernel
theorem dX1_openAt_26 : decode cX1_openAt 26 = .ok (.iinc 3 (-1), 3) := by decide +kernel
theorem dX1_openAt_29 : decode cX1_openAt 29 = .ok (.goto (-22), 3) := by decide +kernel
theorem dX1_openAt_32 : decode cX1_openAt 32 = .ok (.aload_n 0, 1) := by decide +kernel
theorem dX1_openAt_33 : decode cX1_openAt 33 = .ok (.dup, 1) := by decide +kernel
theorem dX1_openAt_34 : decode cX1_openAt 34 = .ok (.getfield 15, 3) := by decide +kernel
theorem dX1_openAt_37 : decode cX1_openAt 37 = .ok (.iload_n 2, 1) := by decide +kernel
theorem dX1_openAt_38 : decode cX1_openAt 38 = .ok (.iadd, 1) := by decide +kernel
theorem dX1_openAt_39 : decode cX1_openAt 39 = .ok (.putfield 15, 3) := by decide +kernel
theorem dX1_openAt_42 : decode cX1_openAt 42 = .ok (.aload_n 0, 1) := by decide +kernel
theorem dX1_openAt_43 : decode cX1_openAt 43 = .ok (.dup, 1) := by decide +kernel
theorem dX1_openAt_44 : decode cX1_openAt 44 = .ok (.getfield 27, 3) := by decide +kernel
theorem dX1_openAt_47 : decode cX1_openAt 47 = .ok (.iconst 1, 1) := by decide +kernel
theorem dX1_openAt_48 : decode cX1_openAt 48 = .ok (.iadd, 1) := by decide +kernel
theorem dX1_openAt_49 : decode cX1_openAt 49 = .ok (.putfield 27, 3) := by decide +kernel
theorem dX1_openAt_52 : decode cX1_openAt 52 = .ok (.return_, 1) := by decide +kernel
theorem dJ9_min_7cf53_0 : decode cJ9_min_7cf53 0 = .ok (.iload_n 0, 1) := by decide +kernel
theorem dJ9_min_7cf53_1 : decode cJ9_min_7cf53 1 = .ok (.iload_n 1, 1) := by decide +kernel
theorem dJ9_min_7cf53_2 : decode cJ9_min_7cf53 2 = .ok (.if_icmp .gt 7, 3) := by decide +kernel
theorem dJ9_min_7cf53_5 : decode cJ9_min_7cf53 5 = .ok (.iload_n 0, 1) := by decide +kernel
theorem dJ9_min_7cf53_6 : decode cJ9_min_7cf53 6 = .ok (.goto 4, 3) := by decide +kernel
theorem dJ9_min_7cf53_9 : decode cJ9_min_7cf53 9 = .ok (.iload_n 1, 1) := by decide +kernel
theorem dJ9_min_7cf53_10 : decode cJ9_min_7cf53 10 = .ok (.ireturn, 1) := by decide +kernel
end
section
set_option maxRecDepth 20000 in
theorem ggX2_init_X1_init : GoodIn wsX2_init wsX1_init := goodIn_r _ [13, 14, 2, 3, 15, 16, 28, 29, 30] (by decide +kernel) (by decide +kernel)
set_option maxRecDepth 20000 in
theorem gX2_init_X1_init_n21 : GoodIn wsX2_init (wsX1_init) := ggX2_init_X1_init
set_option maxRecDepth 20000 in
theorem ggX2_init_X0_init : GoodIn wsX2_init wsX0_init := goodIn_r _ [18, 19, 2, 3, 20, 31, 32, 33, 34, 35, 36] (by decide +kernel) (by decide +kernel)
set_option maxRecDepth 20000 in
theorem gX2_init_X0_init_n22 : GoodIn wsX2_init (wsX0_init) := ggX2_init_X0_init
theorem dX2_init_0 : decode cX2_init 0 = .ok (.aload_n 0, 1) := by decide +kernel
theorem dX2_init_1 : decode cX2_init 1 = .ok (.invokespecial 1, 3) := by decide +kernel
theorem dX2_init_4 : decode cX2_init 4 = .ok (.aload_n 0, 1) := by decide +kernel
theorem dX2_init_5 : decode cX2_init 5 = .ok (.iconst 3, 1) := by decide +kernel
theorem dX2_init_6 : decode cX2_init 6 = .ok (.anewarray 9, 3) := by decide +kernel
theorem dX2_init_9 : decode cX2_init 9 = .ok (.putfield 11, 3) := by decide +kernel
theorem dX2_init_12 : decode cX2_init 12 = .ok (.aload_n 0, 1) := by decide +kernel
theorem dX2_init_13 : decode cX2_init 13 = .ok (.iconst 4, 1) := by decide +kernel
theorem dX2_init_14 : decode cX2_init 14 = .ok (.anewarray 15, 3) := by decide +kernel
theorem dX2_init_17 : decode cX2_init 17 = .ok (.putfield 17, 3) := by decide +kernel
theorem dX2_init_20 : decode cX2_init 20 = .ok (.iconst 0, 1) := by decide +kernel
theorem dX2_init_21 : decode cX2_init 21 = .ok (.istore_n 1, 1) := by decide +kernel
theorem dX2_init_22 : decode cX2_init 22 = .ok (.iload_n 1, 1) := by decide +kernel
theorem dX2_init_23 : decode cX2_init 23 = .ok (.aload_n 0, 1) := by decide +kernel
theorem dX2_init_24 : decode cX2_init 24 = .ok (.getfield 11, 3) := by decide +kernel
theorem dX2_init_27 : decode cX2_init 27 = .ok (.arraylength, 1) := by decide +kernel
theorem dX2_init_28 : decode cX2_init 28 = .ok (.if_icmp .ge 22, 3) := by decide +kernel
theorem dX2_init_31 : decode cX2_init 31 = .ok (.aload_n 0, 1) := by decide +kernel
theorem dX2_init_32 : decode cX2_init 32 = .ok (.getfield 11, 3) := by decide +kernel
theorem dX2_init_35 : decode cX2_init 35 = .ok (.iload_n 1, 1) := by decide +kernel
theorem dX2_init_36 : decode cX2_init 36 = .ok (.new 9, 3) := by decide +kernel
theorem dX2_init_39 : decode cX2_init 39 = .ok (.dup, 1) := by decide +kernel
theorem dX2_init_40 : decode cX2_init 40 = .ok (.invokespecial 21, 3) := by decide +kernel
theorem dX2_init_43 : decode cX2_init 43 = .ok (.aastore, 1) := by decide +kernel
theorem dX2_init_44 : decode cX2_init 44 = .ok (.iinc 1 1, 3) := by decide +kernel
theorem dX2_init_47 : decode cX2_init 47 = .ok (.goto (-25), 3) := by decide +kernel
theorem dX2_init_50 : decode cX2_init 50 = .ok (.iconst 0, 1) := by decide +kernel
theorem dX2_init_51 : decode cX2_init 51 = .ok (.istore_n 1, 1) := by decide +kernel
theorem dX2_init_52 : decode cX2_init 52 = .ok (.iload_n 1, 1) := by decide +kernel
theorem dX2_init_53 : decode cX2_init 53 = .ok (.aload_n 0, 1) := by decide +kernel
theorem dX2_init_54 : decode cX2_init 54 = .ok (.getfield 17, 3) := by decide +kernel
theorem dX2_init_57 : decode cX2_init 57 = .ok (.arraylength, 1) := by decide +kernel
theorem dX2_init_58 : decode cX2_init 58 = .ok (.if_icmp .ge 22, 3) := by decide +kernel
theorem dX2_init_61 : decode cX2_init 61 = .ok (.aload_n 0, 1) := by decide +kernel
theorem dX2_init_62 : decode cX2_init 62 = .ok (.getfield 17, 3) := by decide +kernel
theorem dX2_init_65 : decode cX2_init 65 = .ok (.iload_n 1, 1) := by decide +kernel
theorem dX2_init_66 : decode cX2_init 66 = .ok (.new 15, 3) := by decide +kernel
theorem dX2_init_69 : decode cX2_init 69 = .ok (.dup, 1) := by decide +kernel
theorem dX2_init_70 : decode cX2_init 70 = .ok (.invokespecial 22, 3) := by decide +kernel
theorem dX2_init_73 : decode cX2_init 73 = .ok (.aastore, 1) := by decide +kernel
theorem dX2_init_74 : decode cX2_init 74 = .ok (.iinc 1 1, 3) := by decide +kernel
theorem dX2_init_77 : decode cX2_init 77 = .ok (.goto (-25), 3) := by decide +kernel
theorem dX2_init_80 : decode cX2_init 80 = .ok (.return_, 1) := by decide +kernel
set_option maxRecDepth 20000 in
theorem ggX2_put_X2_rowOf : GoodIn wsX2_put wsX2_rowOf := goodIn_r _ [5, 6, 34, 35, 36, 37, 38, 39, 40] (by decide +kernel) (by decide +kernel)
set_option maxRecDepth 20000 in
theorem gX2_put_X2_rowOf : GoodIn wsX2_put (wsV RX2 23 RX2 yX2_rowOf wsX2_rowOf) := goodIn_app (goodIn_of _ (by decide +kernel)) ggX2_put_X2_rowOf
set_option maxRecDepth 20000 in
theorem ggX2_put_X2_isName : GoodIn wsX2_put wsX2_isName := goodIn_r _ [9] (by decide +kernel) (by decide +kernel)
set_option maxRecDepth 20000 in
theorem gX2_put_X2_isName : GoodIn wsX2_put (va_wsS RX2 27 yX2_isName wsX2_isName) := goodIn_app (goodIn_of _ (by decide +kernel)) ggX2_put_X2_isName
set_option maxRecDepth 20000 in
theorem ggX2_put_X1_hasRoomFor : GoodIn wsX2_put wsX1_hasRoomFor := goodIn_r _ [14, 15, 31, 32, 33] (by decide +kernel) (by decide +kernel)
set_option maxRecDepth 20000 in
theorem gX2_put_X1_hasRoomFor : GoodIn wsX2_put (wsV RX2 31 RX1 yX1_hasRoomFor wsX1_hasRoomFor) := goodIn_app (goodIn_of _ (by decide +kernel)) ggX2_put_X1_hasRoomFor
set_option maxRecDepth 20000 in
theorem ggX2_put_X2_newThing : GoodIn wsX2_put wsX2_newThing := goodIn_r _ [19, 20, 34, 35, 36, 37, 38, 39, 40] (by decide +kernel) (by decide +kernel)
set_option maxRecDepth 20000 in
theorem gX2_put_X2_newThing : GoodIn wsX2_put (wsV RX2 38 RX2 yX2_newThing wsX2_newThing) := goodIn_app (goodIn_of _ (by decide +kernel)) ggX2_put_X2_newThing
set_option maxRecDepth 20000 in
theorem ggX2_put_X1_putAt : GoodIn wsX2_put wsX1_putAt := goodIn_r _ [24, 25, 26, 27, 28, 13, 29, 15, 30, 31, 32, 33] (by decide +kernel) (by decide +kernel)
set_option maxRecDepth 20000 in
theorem gX2_put_X1_putAt : GoodIn wsX2_put (wsV RX2 42 RX1 yX1_putAt wsX1_putAt) := goodIn_app (goodIn_of _ (by decide +kernel)) ggX2_put_X1_putAt
theorem dX2_put_0 : decode cX2_put 0 = .ok (.aload_n 0, 1) := by decide +kernel
theorem dX2_put_1 : decode cX2_put 1 = .ok (.iload_n 1, 1) := by decide +kernel
theorem dX2_put_2 : decode cX2_put 2 = .ok (.invokevirtual 23, 3) := by decide +kernel
theorem dX2_put_5 : decode cX2_put 5 = .ok (.astore 5, 2) := by decide +kernel
theorem dX2_put_7 : decode cX2_put 7 = .ok (.aload 5, 2) := by decide +kernel
theorem dX2_put_9 : decode cX2_put 9 = .ok (.ifnull 21, 3) := by decide +kernel
theorem dX2_put_12 : decode cX2_put 12 = .ok (.iload_n 2, 1) := by decide +kernel
theorem dX2_put_13 : decode cX2_put 13 = .ok (.invokestatic 27, 3) := by decide +kernel
theorem dX2_put_16 : decode cX2_put 16 = .ok (.ifCond .eq 14, 3) := by decide +kernel
theorem dX2_put_19 : decode cX2_put 19 = .ok (.iload 4, 2) := by decide +kernel
theorem dX2_put_21 : decode cX2_put 21 = .ok (.ifCond .lt 9, 3) := by decide +kernel
theorem dX2_put_24 : decode cX2_put 24 = .ok (.iload 4, 2) := by decide +kernel
theorem dX2_put_26 : decode cX2_put 26 = .ok (.iconst 2, 1) := by decide +kernel
theorem dX2_put_27 : decode cX2_put 27 = .ok (.if_icmp .le 5, 3) := by decide +kernel
theorem dX2_put_30 : decode cX2_put 30 = .ok (.iconst (-1), 1) := by decide +kernel
theorem dX2_put_31 : decode cX2_put 31 = .ok (.ireturn, 1) := by decide +kernel
theorem dX2_put_32 : decode cX2_put 32 = .ok (.aload 5, 2) := by decide +kernel
theorem dX2_put_34 : decode cX2_put 34 = .ok (.iconst 1, 1) := by decide +kernel
theorem dX2_put_35 : decode cX2_put 35 = .ok (.invokevirtual 31, 3) := by decide +kernel
theorem dX2_put_38 : decode cX2_put 38 = .ok (.ifCond .ne 6, 3) := by decide +kernel
theorem dX2_put_41 : decode cX2_put 41 = .ok (.bipush (-3), 2) := by decide +kernel
theorem dX2_put_43 : decode cX2_put 43 = .ok (.ireturn, 1) := by decide +kernel
theorem dX2_put_44 : decode cX2_put 44 = .ok (.aload 5, 2) := by decide +kernel
theorem dX2_put_46 : decode cX2_put 46 = .ok (.iload_n 3, 1) := by decide +kernel
theorem dX2_put_47 : decode cX2_put 47 = .ok (.ifCond .eq 11, 3) := by decide +kernel
theorem dX2_put_50 : decode cX2_put 50 = .ok (.aload 5, 2) := by decide +kernel
theorem dX2_put_52 : decode cX2_put 52 = .ok (.getfield 34, 3) := by decide +kernel
theorem dX2_put_55 : decode cX2_put 55 = .ok (.goto 4, 3) := by decide +kernel
theorem dX2_put_58 : decode cX2_put 58 = .ok (.iconst 0, 1) := by decide +kernel
theorem dX2_put_59 : decode cX2_put 59 = .ok (.aload_n 0, 1) := by decide +kernel
theorem dX2_put_60 : decode cX2_put 60 = .ok (.iload_n 2, 1) := by decide +kernel
theorem dX2_put_61 : decode cX2_put 61 = .ok (.invokevirtual 38, 3) := by decide +kernel
theorem dX2_put_64 : decode cX2_put 64 = .ok (.invokevirtual 42, 3) := by decide +kernel
theorem dX2_put_67 : decode cX2_put 67 = .ok (.aload 5, 2) := by decide +kernel
theorem dX2_put_69 : decode cX2_put 69 = .ok (.getfield 34, 3) := by decide +kernel
theorem dX2_put_72 : decode cX2_put 72 = .ok (.ireturn, 1) := by decide +kernel
set_option maxRecDepth 20000 in
theorem ggX2_end_X2_rowOf : GoodIn wsX2_end wsX2_rowOf := goodIn_r _ [5, 6, 31, 32, 33, 34, 35, 36, 37] (by decide +kernel) (by decide +kernel)
set_option maxRecDepth 20000 in
theorem gX2_end_X2_rowOf : GoodIn wsX2_end (wsV RX2 23 RX2 yX2_rowOf wsX2_rowOf) := goodIn_app (goodIn_of _ (by decide +kernel)) ggX2_end_X2_rowOf
set_option maxRecDepth 20000 in
theorem ggX2_end_X2_isEndWay : GoodIn wsX2_end wsX2_isEndWay := goodIn_r _ [9] (by decide +kernel) (by decide +kernel)
set_option maxRecDepth 20000 in
theorem gX2_end_X2_isEndWay : GoodIn wsX2_end (va_wsS RX2 46 yX2_isEndWay wsX2_isEndWay) := goodIn_app (goodIn_of _ (by decide +kernel)) ggX2_end_X2_isEndWay
set_option maxRecDepth 20000 in
theorem ggX2_end_X2_noEnd : GoodIn wsX2_end wsX2_noEnd := goodIn_r _ [13, 14, 15, 16, 4, 17, 18, 19, 20, 21, 31, 32, 33, 34, 35, 36, 37] (by decide +kernel) (by decide +kernel)
set_option maxRecDepth 20000 in
theorem gX2_end_X2_noEnd : GoodIn wsX2_end (wsV RX2 50 RX2 yX2_noEnd wsX2_noEnd) := goodIn_app (goodIn_of _ (by decide +kernel)) ggX2_end_X2_noEnd
set_option maxRecDepth 20000 in
theorem ggX2_end_X1_thingAt : GoodIn wsX2_end wsX1_thingAt := goodIn_r _ [26, 27, 28, 29, 30] (by decide +kernel) (by decide +kernel)
set_option maxRecDepth 20000 in
theorem gX2_end_X1_thingAt : GoodIn wsX2_end (wsV RX2 53 RX1 yX1_thingAt wsX1_thingAt) := goodIn_app (goodIn_of _ (by decide +kernel)) ggX2_end_X1_thingAt
theorem dX2_end_0 : decode cX2_end 0 = .ok (.aload_n 0, 1) := by decide +kernel
theorem dX2_end_1 : decode cX2_end 1 = .ok (.iload_n 1, 1) := by decide +kernel
theorem dX2_end_2 : decode cX2_end 2 = .ok (.invokevirtual 23, 3) := by decide +kernel
theorem dX2_end_5 : decode cX2_end 5 = .ok (.astore 4, 2) := by decide +kernel
theorem dX2_end_7 : decode cX2_end 7 = .ok (.aload 4, 2) := by decide +kernel
theorem dX2_end_9 : decode cX2_end 9 = .ok (.ifnull 12, 3) := by decide +kernel
theorem dX2_end_12 : decode cX2_end 12 = .ok (.iload_n 3, 1) := by decide +kernel
theorem dX2_end_13 : decode cX2_end 13 = .ok (.iconst 3, 1) := by decide +kernel
theorem dX2_end_14 : decode cX2_end 14 = .ok (.iload_n 2, 1) := by decide +kernel
theorem dX2_end_15 : decode cX2_end 15 = .ok (.invokestatic 46, 3) := by decide +kernel
theorem dX2_end_18 : decode cX2_end 18 = .ok (.ifCond .ne 5, 3) := by decide +kernel
theorem dX2_end_21 : decode cX2_end 21 = .ok (.iconst (-1), 1) := by decide +kernel
theorem dX2_end_22 : decode cX2_end 22 = .ok (.ireturn, 1) := by decide +kernel
theorem dX2_end_23 : decode cX2_end 23 = .ok (.aload 4, 2) := by decide +kernel
theorem dX2_end_25 : decode cX2_end 25 = .ok (.getfield 34, 3) := by decide +kernel
theorem dX2_end_28 : decode cX2_end 28 = .ok (.ifCond .ne 9, 3) := by decide +kernel
theorem dX2_end_31 : decode cX2_end 31 = .ok (.aload_n 0, 1) := by decide +kernel
theorem dX2_end_32 : decode cX2_end 32 = .ok (.iload_n 3, 1) := by decide +kernel
theorem dX2_end_33 : decode cX2_end 33 = .ok (.invokevirtual 50, 3) := by decide +kernel
theorem dX2_end_36 : decode cX2_end 36 = .ok (.ireturn, 1) := by decide +kernel
theorem dX2_end_37 : decode cX2_end 37 = .ok (.aload 4, 2) := by decide +kernel
theorem dX2_end_39 : decode cX2_end 39 = .ok (.iload_n 2, 1) := by decide +kernel
theorem dX2_end_40 : decode cX2_end 40 = .ok (.ifCond .eq 13, 3) := by decide +kernel
theorem dX2_end_43 : decode cX2_end 43 = .ok (.aload 4, 2) := by decide +kernel
theorem dX2_end_45 : decode cX2_end 45 = .ok (.getfield 34, 3) := by decide +kernel
theorem dX2_end_48 : decode cX2_end 48 = .ok (.iconst 1, 1) := by decide +kernel
theorem dX2_end_49 : decode cX2_end 49 = .ok (.isub, 1) := by decide +kernel
theorem dX2_end_50 : decode cX2_end 50 = .ok (.goto 4, 3) := by decide +kernel
theorem dX2_end_53 : decode cX2_end 53 = .ok (.iconst 0, 1) := by decide +kernel
theorem dX2_end_54 : decode cX2_end 54 = .ok (.invokevirtual 53, 3) := by decide +kernel
theorem dX2_end_57 : decode cX2_end 57 = .ok (.ireturn, 1) := by decide +kernel
set_option maxRecDepth 20000 in
theorem ggX2_take_X2_rowOf : GoodIn wsX2_take wsX2_rowOf := goodIn_r _ [5, 6, 37, 38, 39, 40, 41, 42, 43] (by decide +kernel) (by decide +kernel)
set_option maxRecDepth 20000 in
theorem gX2_take_X2_rowOf : GoodIn wsX2_take (wsV RX2 23 RX2 yX2_rowOf wsX2_rowOf) := goodIn_app (goodIn_of _ (by decide +kernel)) ggX2_take_X2_rowOf
set_option maxRecDepth 20000 in
theorem ggX2_take_X2_isEndWay : GoodIn wsX2_take wsX2_isEndWay := goodIn_r _ [9] (by decide +kernel) (by decide +kernel)
set_option maxRecDepth 20000 in
theorem gX2_take_X2_isEndWay : GoodIn wsX2_take (va_wsS RX2 46 yX2_isEndWay wsX2_isEndWay) := goodIn_app (goodIn_of _ (by decide +kernel)) ggX2_take_X2_isEndWay
set_option maxRecDepth 20000 in
theorem ggX2_take_X2_noEnd : GoodIn wsX2_take wsX2_noEnd := goodIn_r _ [13, 14, 15, 16, 4, 17, 18, 19, 20, 21, 37, 38, 39, 40, 41, 42, 43] (by decide +kernel) (by decide +kernel)
set_option maxRecDepth 20000 in
theorem gX2_take_X2_noEnd : GoodIn wsX2_take (wsV RX2 50 RX2 yX2_noEnd wsX2_noEnd) := goodIn_app (goodIn_of _ (by decide +kernel)) ggX2_take_X2_noEnd
set_option maxRecDepth 20000 in
theorem ggX2_take_X1_takeAt : GoodIn wsX2_take wsX1_takeAt := goodIn_r _ [26, 27, 28, 29, 30, 31, 25, 32, 33, 34, 35, 36] (by decide +kernel) (by decide +kernel)
set_option maxRecDepth 20000 in
theorem gX2_take_X1_takeAt : GoodIn wsX2_take (wsV RX2 56 RX1 yX1_takeAt wsX1_takeAt) := goodIn_app (goodIn_of _ (by decide +kernel)) ggX2_take_X1_takeAt
theorem dX2_take_0 : decode cX2_take 0 = .ok (.aload_n 0, 1) := by decide +kernel
theorem dX2_take_1 : decode cX2_take 1 = .ok (.iload_n 1, 1) := by decide +kernel
theorem dX2_take_2 : decode cX2_take 2 = .ok (.invokevirtual 23, 3) := by decide +kernel
theorem dX2_take_5 : decode cX2_take 5 = .ok (.astore 4, 2) := by decide +kernel
theorem dX2_take_7 : decode cX2_take 7 = .ok (.aload 4, 2) := by decide +kernel
theorem dX2_take_9 : decode cX2_take 9 = .ok (.ifnull 12, 3) := by decide +kernel
theorem dX2_take_12 : decode cX2_take 12 = .ok (.iload_n 3, 1) := by decide +kernel
theorem dX2_take_13 : decode cX2_take 13 = .ok (.iconst 4, 1) := by decide +kernel
theorem dX2_take_14 : decode cX2_take 14 = .ok (.iload_n 2, 1) := by decide +kernel
theorem dX2_take_15 : decode cX2_take 15 = .ok (.invokestatic 46, 3) := by decide +kernel
theorem dX2_take_18 : decode cX2_take 18 = .ok (.ifCond .ne 5, 3) := by decide +kernel
theorem dX2_take_21 : decode cX2_take 21 = .ok (.iconst (-1), 1) := by decide +kernel
theorem dX2_take_22 : decode cX2_take 22 = .ok (.ireturn, 1) := by decide +kernel
theorem dX2_take_23 : decode cX2_take 23 = .ok (.aload 4, 2) := by decide +kernel
theorem dX2_take_25 : decode cX2_take 25 = .ok (.getfield 34, 3) := by decide +kernel
theorem dX2_take_28 : decode cX2_take 28 = .ok (.ifCond .ne 9, 3) := by decide +kernel
theorem dX2_take_31 : decode cX2_take 31 = .ok (.aload_n 0, 1) := by decide +kernel
theorem dX2_take_32 : decode cX2_take 32 = .ok (.iload_n 3, 1) := by decide +kernel
theorem dX2_take_33 : decode cX2_take 33 = .ok (.invokevirtual 50, 3) := by decide +kernel
theorem dX2_take_36 : decode cX2_take 36 = .ok (.ireturn, 1) := by decide +kernel
theorem dX2_take_37 : decode cX2_take 37 = .ok (.aload 4, 2) := by decide +kernel
theorem dX2_take_39 : decode cX2_take 39 = .ok (.iload_n 2, 1) := by decide +kernel
theorem dX2_take_40 : decode cX2_take 40 = .ok (.ifCond .eq 13, 3) := by decide +kernel
theorem dX2_take_43 : decode cX2_take 43 = .ok (.aload 4, 2) := by decide +kernel
theorem dX2_take_45 : decode cX2_take 45 = .ok (.getfield 34, 3) := by decide +kernel
theorem dX2_take_48 : decode cX2_take 48 = .ok (.iconst 1, 1) := by decide +kernel
theorem dX2_take_49 : decode cX2_take 49 = .ok (.isub, 1) := by decide +kernel
theorem dX2_take_50 : decode cX2_take 50 = .ok (.goto 4, 3) := by decide +kernel
theorem dX2_take_53 : decode cX2_take 53 = .ok (.iconst 0, 1) := by decide +kernel
theorem dX2_take_54 : decode cX2_take 54 = .ok (.invokevirtual 56, 3) := by decide +kernel
theorem dX2_take_57 : decode cX2_take 57 = .ok (.ireturn, 1) := by decide +kernel
set_option maxRecDepth 20000 in
theorem ggX2_at_X2_rowOf : GoodIn wsX2_at wsX2_rowOf := goodIn_r _ [5, 6, 26, 27, 28, 29, 30, 31, 32] (by decide +kernel) (by decide +kernel)
set_option maxRecDepth 20000 in
theorem gX2_at_X2_rowOf : GoodIn wsX2_at (wsV RX2 23 RX2 yX2_rowOf wsX2_rowOf) := goodIn_app (goodIn_of _ (by decide +kernel)) ggX2_at_X2_rowOf
set_option maxRecDepth 20000 in
theorem ggX2_at_X1_hasThingAt : GoodIn wsX2_at wsX1_hasThingAt := goodIn_r _ [11, 12, 33, 34, 35] (by decide +kernel) (by decide +kernel)
set_option maxRecDepth 20000 in
theorem gX2_at_X1_hasThingAt : GoodIn wsX2_at (wsV RX2 59 RX1 yX1_hasThingAt wsX1_hasThingAt) := goodIn_app (goodIn_of _ (by decide +kernel)) ggX2_at_X1_hasThingAt
set_option maxRecDepth 20000 in
theorem ggX2_at_X2_refused : GoodIn wsX2_at wsX2_refused := goodIn_r _ [16, 17, 18, 19, 20, 26, 27, 28, 29, 30, 31, 32] (by decide +kernel) (by decide +kernel)
set_option maxRecDepth 20000 in
theorem gX2_at_X2_refused : GoodIn wsX2_at (wsV RX2 62 RX2 yX2_refused wsX2_refused) := goodIn_app (goodIn_of _ (by decide +kernel)) ggX2_at_X2_refused
set_option maxRecDepth 20000 in
theorem ggX2_at_X1_thingAt : GoodIn wsX2_at wsX1_thingAt := goodIn_r _ [24, 25, 33, 34, 35] (by decide +kernel) (by decide +kernel)
set_option maxRecDepth 20000 in
theorem gX2_at_X1_thingAt : GoodIn wsX2_at (wsV RX2 53 RX1 yX1_thingAt wsX1_thingAt) := goodIn_app (goodIn_of _ (by decide +kernel)) ggX2_at_X1_thingAt
theorem dX2_at_0 : decode cX2_at 0 = .ok (.aload_n 0, 1) := by decide +kernel
theorem dX2_at_1 : decode cX2_at 1 = .ok (.iload_n 1, 1) := by decide +kernel
theorem dX2_at_2 : decode cX2_at 2 = .ok (.invokevirtual 23, 3) := by decide +kernel
theorem dX2_at_5 : decode cX2_at 5 = .ok (.astore_n 3, 1) := by decide +kernel
theorem dX2_at_6 : decode cX2_at 6 = .ok (.aload_n 3, 1) := by decide +kernel
theorem dX2_at_7 : decode cX2_at 7 = .ok (.ifnonnull 5, 3) := by decide +kernel
theorem dX2_at_10 : decode cX2_at 10 = .ok (.iconst (-1), 1) := by decide +kernel
theorem dX2_at_11 : decode cX2_at 11 = .ok (.ireturn, 1) := by decide +kernel
theorem dX2_at_12 : decode cX2_at 12 = .ok (.aload_n 3, 1) := by decide +kernel
theorem dX2_at_13 : decode cX2_at 13 = .ok (.iload_n 2, 1) := by decide +kernel
theorem dX2_at_14 : decode cX2_at 14 = .ok (.invokevirtual 59, 3) := by decide +kernel
theorem dX2_at_17 : decode cX2_at 17 = .ok (.ifCond .ne 10, 3) := by decide +kernel
theorem dX2_at_20 : decode cX2_at 20 = .ok (.aload_n 0, 1) := by decide +kernel
theorem dX2_at_21 : decode cX2_at 21 = .ok (.bipush (-5), 2) := by decide +kernel
theorem dX2_at_23 : decode cX2_at 23 = .ok (.invokevirtual 62, 3) := by decide +kernel
theorem dX2_at_26 : decode cX2_at 26 = .ok (.ireturn, 1) := by decide +kernel
theorem dX2_at_27 : decode cX2_at 27 = .ok (.aload_n 3, 1) := by decide +kernel
theorem dX2_at_28 : decode cX2_at 28 = .ok (.iload_n 2, 1) := by decide +kernel
theorem dX2_at_29 : decode cX2_at 29 = .ok (.invokevirtual 53, 3) := by decide +kernel
theorem dX2_at_32 : decode cX2_at 32 = .ok (.ireturn, 1) := by decide +kernel
set_option maxRecDepth 20000 in
theorem ggX2_lay_X2_rowOf : GoodIn wsX2_lay wsX2_rowOf := goodIn_r _ [5, 6, 34, 35, 36, 37, 38, 39, 40] (by decide +kernel) (by decide +kernel)
set_option maxRecDepth 20000 in
theorem gX2_lay_X2_rowOf : GoodIn wsX2_lay (wsV RX2 23 RX2 yX2_rowOf wsX2_rowOf) := goodIn_app (goodIn_of _ (by decide +kernel)) ggX2_lay_X2_rowOf
set_option maxRecDepth 20000 in
theorem ggX2_lay_X2_isName : GoodIn wsX2_lay wsX2_isName := goodIn_r _ [9] (by decide +kernel) (by decide +kernel)
set_option maxRecDepth 20000 in
theorem gX2_lay_X2_isName : GoodIn wsX2_lay (va_wsS RX2 27 yX2_isName wsX2_isName) := goodIn_app (goodIn_of _ (by decide +kernel)) ggX2_lay_X2_isName
set_option maxRecDepth 20000 in
theorem ggX2_lay_X1_hasThingAt : GoodIn wsX2_lay wsX1_hasThingAt := goodIn_r _ [14, 15, 41, 42, 43] (by decide +kernel) (by decide +kernel)
set_option maxRecDepth 20000 in
theorem gX2_lay_X1_hasThingAt : GoodIn wsX2_lay (wsV RX2 59 RX1 yX1_hasThingAt wsX1_hasThingAt) := goodIn_app (goodIn_of _ (by decide +kernel)) ggX2_lay_X1_hasThingAt
set_option maxRecDepth 20000 in
theorem ggX2_lay_X2_refused : GoodIn wsX2_lay wsX2_refused := goodIn_r _ [19, 20, 21, 22, 23, 34, 35, 36, 37, 38, 39, 40] (by decide +kernel) (by decide +kernel)
set_option maxRecDepth 20000 in
theorem gX2_lay_X2_refused : GoodIn wsX2_lay (wsV RX2 62 RX2 yX2_refused wsX2_refused) := goodIn_app (goodIn_of _ (by decide +kernel)) ggX2_lay_X2_refused
set_option maxRecDepth 20000 in
theorem ggX2_lay_X2_newThing : GoodIn wsX2_lay wsX2_newThing := goodIn_r _ [27, 28, 34, 35, 36, 37, 38, 39, 40] (by decide +kernel) (by decide +kernel)
set_option maxRecDepth 20000 in
theorem gX2_lay_X2_newThing : GoodIn wsX2_lay (wsV RX2 38 RX2 yX2_newThing wsX2_newThing) := goodIn_app (goodIn_of _ (by decide +kernel)) ggX2_lay_X2_newThing
set_option maxRecDepth 20000 in
theorem ggX2_lay_X1_layAt : GoodIn wsX2_lay wsX1_layAt := goodIn_r _ [32, 33, 41, 42, 43] (by decide +kernel) (by decide +kernel)
set_option maxRecDepth 20000 in
theorem gX2_lay_X1_layAt : GoodIn wsX2_lay (wsV RX2 65 RX1 yX1_layAt wsX1_layAt) := goodIn_app (goodIn_of _ (by decide +kernel)) ggX2_lay_X1_layAt
theorem dX2_lay_0 : decode cX2_lay 0 = .ok (.aload_n 0, 1) := by decide +kernel
theorem dX2_lay_1 : decode cX2_lay 1 = .ok (.iload_n 1, 1) := by decide +kernel
theorem dX2_lay_2 : decode cX2_lay 2 = .ok (.invokevirtual 23, 3) := by decide +kernel
theorem dX2_lay_5 : decode cX2_lay 5 = .ok (.astore 4, 2) := by decide +kernel
theorem dX2_lay_7 : decode cX2_lay 7 = .ok (.aload 4, 2) := by decide +kernel
theorem dX2_lay_9 : decode cX2_lay 9 = .ok (.ifnull 10, 3) := by decide +kernel
theorem dX2_lay_12 : decode cX2_lay 12 = .ok (.iload_n 3, 1) := by decide +kernel
theorem dX2_lay_13 : decode cX2_lay 13 = .ok (.invokestatic 27, 3) := by decide +kernel
theorem dX2_lay_16 : decode cX2_lay 16 = .ok (.ifCond .ne 5, 3) := by decide +kernel
theorem dX2_lay_19 : decode cX2_lay 19 = .ok (.iconst (-1), 1) := by decide +kernel
theorem dX2_lay_20 : decode cX2_lay 20 = .ok (.ireturn, 1) := by decide +kernel
theorem dX2_lay_21 : decode cX2_lay 21 = .ok (.aload 4, 2) := by decide +kernel
theorem dX2_lay_23 : decode cX2_lay 23 = .ok (.iload_n 2, 1) := by decide +kernel
theorem dX2_lay_24 : decode cX2_lay 24 = .ok (.invokevirtual 59, 3) := by decide +kernel
theorem dX2_lay_27 : decode cX2_lay 27 = .ok (.ifCond .ne 10, 3) := by decide +kernel
theorem dX2_lay_30 : decode cX2_lay 30 = .ok (.aload_n 0, 1) := by decide +kernel
theorem dX2_lay_31 : decode cX2_lay 31 = .ok (.bipush (-5), 2) := by decide +kernel
theorem dX2_lay_33 : decode cX2_lay 33 = .ok (.invokevirtual 62, 3) := by decide +kernel
theorem dX2_lay_36 : decode cX2_lay 36 = .ok (.ireturn, 1) := by decide +kernel
theorem dX2_lay_37 : decode cX2_lay 37 = .ok (.aload 4, 2) := by decide +kernel
theorem dX2_lay_39 : decode cX2_lay 39 = .ok (.iload_n 2, 1) := by decide +kernel
theorem dX2_lay_40 : decode cX2_lay 40 = .ok (.aload_n 0, 1) := by decide +kernel
theorem dX2_lay_41 : decode cX2_lay 41 = .ok (.iload_n 3, 1) := by decide +kernel
theorem dX2_lay_42 : decode cX2_lay 42 = .ok (.invokevirtual 38, 3) := by decide +kernel
theorem dX2_lay_45 : decode cX2_lay 45 = .ok (.invokevirtual 65, 3) := by decide +kernel
theorem dX2_lay_48 : decode cX2_lay 48 = .ok (.ireturn, 1) := by decide +kernel
set_option maxRecDepth 20000 in
theorem ggX2_insert_X2_rowOf : GoodIn wsX2_insert wsX2_rowOf := goodIn_r _ [5, 6, 46, 47, 48, 49, 50, 51, 52] (by decide +kernel) (by decide +kernel)
set_option maxRecDepth 20000 in
theorem gX2_insert_X2_rowOf : GoodIn wsX2_insert (wsV RX2 23 RX2 yX2_rowOf wsX2_rowOf) := goodIn_app (goodIn_of _ (by decide +kernel)) ggX2_insert_X2_rowOf
set_option maxRecDepth 20000 in
theorem ggX2_insert_X2_isName : GoodIn wsX2_insert wsX2_isName := goodIn_r _ [9] (by decide +kernel) (by decide +kernel)
set_option maxRecDepth 20000 in
theorem gX2_insert_X2_isName : GoodIn wsX2_insert (va_wsS RX2 27 yX2_isName wsX2_isName) := goodIn_app (goodIn_of _ (by decide +kernel)) ggX2_insert_X2_isName
set_option maxRecDepth 20000 in
theorem ggX2_insert_X1_hasRoomFor : GoodIn wsX2_insert wsX1_hasRoomFor := goodIn_r _ [14, 15, 43, 44, 45] (by decide +kernel) (by decide +kernel)
set_option maxRecDepth 20000 in
theorem gX2_insert_X1_hasRoomFor : GoodIn wsX2_insert (wsV RX2 31 RX1 yX1_hasRoomFor wsX1_hasRoomFor) := goodIn_app (goodIn_of _ (by decide +kernel)) ggX2_insert_X1_hasRoomFor
set_option maxRecDepth 20000 in
theorem ggX2_insert_X1_canPutAt : GoodIn wsX2_insert wsX1_canPutAt := goodIn_r _ [19, 15, 43, 44, 45] (by decide +kernel) (by decide +kernel)
set_option maxRecDepth 20000 in
theorem gX2_insert_X1_canPutAt : GoodIn wsX2_insert (wsV RX2 69 RX1 yX1_canPutAt wsX1_canPutAt) := goodIn_app (goodIn_of _ (by decide +kernel)) ggX2_insert_X1_canPutAt
set_option maxRecDepth 20000 in
theorem ggX2_insert_X2_refused : GoodIn wsX2_insert wsX2_refused := goodIn_r _ [23, 24, 25, 26, 27, 46, 47, 48, 49, 50, 51, 52] (by decide +kernel) (by decide +kernel)
set_option maxRecDepth 20000 in
theorem gX2_insert_X2_refused : GoodIn wsX2_insert (wsV RX2 62 RX2 yX2_refused wsX2_refused) := goodIn_app (goodIn_of _ (by decide +kernel)) ggX2_insert_X2_refused
set_option maxRecDepth 20000 in
theorem ggX2_insert_X2_newThing : GoodIn wsX2_insert wsX2_newThing := goodIn_r _ [31, 32, 46, 47, 48, 49, 50, 51, 52] (by decide +kernel) (by decide +kernel)
set_option maxRecDepth 20000 in
theorem gX2_insert_X2_newThing : GoodIn wsX2_insert (wsV RX2 38 RX2 yX2_newThing wsX2_newThing) := goodIn_app (goodIn_of _ (by decide +kernel)) ggX2_insert_X2_newThing
set_option maxRecDepth 20000 in
theorem ggX2_insert_X1_putAt : GoodIn wsX2_insert wsX1_putAt := goodIn_r _ [36, 37, 38, 39, 40, 13, 41, 15, 42, 43, 44, 45] (by decide +kernel) (by decide +kernel)
set_option maxRecDepth 20000 in
theorem gX2_insert_X1_putAt : GoodIn wsX2_insert (wsV RX2 42 RX1 yX1_putAt wsX1_putAt) := goodIn_app (goodIn_of _ (by decide +kernel)) ggX2_insert_X1_putAt
theorem dX2_insert_0 : decode cX2_insert 0 = .ok (.aload_n 0, 1) := by decide +kernel
theorem dX2_insert_1 : decode cX2_insert 1 = .ok (.iload_n 1, 1) := by decide +kernel
theorem dX2_insert_2 : decode cX2_insert 2 = .ok (.invokevirtual 23, 3) := by decide +kernel
theorem dX2_insert_5 : decode cX2_insert 5 = .ok (.astore 4, 2) := by decide +kernel
theorem dX2_insert_7 : decode cX2_insert 7 = .ok (.aload 4, 2) := by decide +kernel
theorem dX2_insert_9 : decode cX2_insert 9 = .ok (.ifnull 10, 3) := by decide +kernel
theorem dX2_insert_12 : decode cX2_insert 12 = .ok (.iload_n 3, 1) := by decide +kernel
theorem dX2_insert_13 : decode cX2_insert 13 = .ok (.invokestatic 27, 3) := by decide +kernel
theorem dX2_insert_16 : decode cX2_insert 16 = .ok (.ifCond .ne 5, 3) := by decide +kernel
theorem dX2_insert_19 : decode cX2_insert 19 = .ok (.iconst (-1), 1) := by decide +kernel
theorem dX2_insert_20 : decode cX2_insert 20 = .ok (.ireturn, 1) := by decide +kernel
theorem dX2_insert_21 : decode cX2_insert 21 = .ok (.aload 4, 2) := by decide +kernel
theorem dX2_insert_23 : decode cX2_insert 23 = .ok (.iconst 1, 1) := by decide +kernel
theorem dX2_insert_24 : decode cX2_insert 24 = .ok (.invokevirtual 31, 3) := by decide +kernel
theorem dX2_insert_27 : decode cX2_insert 27 = .ok (.ifCond .ne 6, 3) := by decide +kernel
theorem dX2_insert_30 : decode cX2_insert 30 = .ok (.bipush (-3), 2) := by decide +kernel
theorem dX2_insert_32 : decode cX2_insert 32 = .ok (.ireturn, 1) := by decide +kernel
theorem dX2_insert_33 : decode cX2_insert 33 = .ok (.aload 4, 2) := by decide +kernel
theorem dX2_insert_35 : decode cX2_insert 35 = .ok (.iload_n 2, 1) := by decide +kernel
theorem dX2_insert_36 : decode cX2_insert 36 = .ok (.invokevirtual 69, 3) := by decide +kernel
theorem dX2_insert_39 : decode cX2_insert 39 = .ok (.ifCond .ne 10, 3) := by decide +kernel
theorem dX2_insert_42 : decode cX2_insert 42 = .ok (.aload_n 0, 1) := by decide +kernel
theorem dX2_insert_43 : decode cX2_insert 43 = .ok (.bipush (-5), 2) := by decide +kernel
theorem dX2_insert_45 : decode cX2_insert 45 = .ok (.invokevirtual 62, 3) := by decide +kernel
theorem dX2_insert_48 : decode cX2_insert 48 = .ok (.ireturn, 1) := by decide +kernel
theorem dX2_insert_49 : decode cX2_insert 49 = .ok (.aload 4, 2) := by decide +kernel
theorem dX2_insert_51 : decode cX2_insert 51 = .ok (.iload_n 2, 1) := by decide +kernel
theorem dX2_insert_52 : decode cX2_insert 52 = .ok (.aload_n 0, 1) := by decide +kernel
theorem dX2_insert_53 : decode cX2_insert 53 = .ok (.iload_n 3, 1) := by decide +kernel
theorem dX2_insert_54 : decode cX2_insert 54 = .ok (.invokevirtual 38, 3) := by decide +kernel
theorem dX2_insert_57 : decode cX2_insert 57 = .ok (.invokevirtual 42, 3) := by decide +kernel
theorem dX2_insert_60 : decode cX2_insert 60 = .ok (.aload 4, 2) := by decide +kernel
theorem dX2_insert_62 : decode cX2_insert 62 = .ok (.getfield 34, 3) := by decide +kernel
theorem dX2_insert_65 : decode cX2_insert 65 = .ok (.ireturn, 1) := by decide +kernel
set_option maxRecDepth 20000 in
theorem ggX2_drop_X2_rowOf : GoodIn wsX2_drop wsX2_rowOf := goodIn_r _ [5, 6, 31, 32, 33, 34, 35, 36, 37] (by decide +kernel) (by decide +kernel)
set_option maxRecDepth 20000 in
theorem gX2_drop_X2_rowOf : GoodIn wsX2_drop (wsV RX2 23 RX2 yX2_rowOf wsX2_rowOf) := goodIn_app (goodIn_of _ (by decide +kernel)) ggX2_drop_X2_rowOf
set_option maxRecDepth 20000 in
theorem ggX2_drop_X1_hasThingAt : GoodIn wsX2_drop wsX1_hasThingAt := goodIn_r _ [11, 12, 38, 39, 40] (by decide +kernel) (by decide +kernel)
set_option maxRecDepth 20000 in
theorem gX2_drop_X1_hasThingAt : GoodIn wsX2_drop (wsV RX2 59 RX1 yX1_hasThingAt wsX1_hasThingAt) := goodIn_app (goodIn_of _ (by decide +kernel)) ggX2_drop_X1_hasThingAt
set_option maxRecDepth 20000 in
theorem ggX2_drop_X2_refused : GoodIn wsX2_drop wsX2_refused := goodIn_r _ [16, 17, 18, 19, 20, 31, 32, 33, 34, 35, 36, 37] (by decide +kernel) (by decide +kernel)
set_option maxRecDepth 20000 in
theorem gX2_drop_X2_refused : GoodIn wsX2_drop (wsV RX2 62 RX2 yX2_refused wsX2_refused) := goodIn_app (goodIn_of _ (by decide +kernel)) ggX2_drop_X2_refused
set_option maxRecDepth 20000 in
theorem ggX2_drop_X1_takeAt : GoodIn wsX2_drop wsX1_takeAt := goodIn_r _ [24, 25, 12, 26, 27, 28, 10, 29, 30, 38, 39, 40] (by decide +kernel) (by decide +kernel)
set_option maxRecDepth 20000 in
theorem gX2_drop_X1_takeAt : GoodIn wsX2_drop (wsV RX2 56 RX1 yX1_takeAt wsX1_takeAt) := goodIn_app (goodIn_of _ (by decide +kernel)) ggX2_drop_X1_takeAt
theorem dX2_drop_0 : decode cX2_drop 0 = .ok (.aload_n 0, 1) := by decide +kernel
theorem dX2_drop_1 : decode cX2_drop 1 = .ok (.iload_n 1, 1) := by decide +kernel
theorem dX2_drop_2 : decode cX2_drop 2 = .ok (.invokevirtual 23, 3) := by decide +kernel
theorem dX2_drop_5 : decode cX2_drop 5 = .ok (.astore_n 3, 1) := by decide +kernel
theorem dX2_drop_6 : decode cX2_drop 6 = .ok (.aload_n 3, 1) := by decide +kernel
theorem dX2_drop_7 : decode cX2_drop 7 = .ok (.ifnonnull 5, 3) := by decide +kernel
theorem dX2_drop_10 : decode cX2_drop 10 = .ok (.iconst (-1), 1) := by decide +kernel
theorem dX2_drop_11 : decode cX2_drop 11 = .ok (.ireturn, 1) := by decide +kernel
theorem dX2_drop_12 : decode cX2_drop 12 = .ok (.aload_n 3, 1) := by decide +kernel
theorem dX2_drop_13 : decode cX2_drop 13 = .ok (.iload_n 2, 1) := by decide +kernel
theorem dX2_drop_14 : decode cX2_drop 14 = .ok (.invokevirtual 59, 3) := by decide +kernel
theorem dX2_drop_17 : decode cX2_drop 17 = .ok (.ifCond .ne 10, 3) := by decide +kernel
theorem dX2_drop_20 : decode cX2_drop 20 = .ok (.aload_n 0, 1) := by decide +kernel
theorem dX2_drop_21 : decode cX2_drop 21 = .ok (.bipush (-5), 2) := by decide +kernel
theorem dX2_drop_23 : decode cX2_drop 23 = .ok (.invokevirtual 62, 3) := by decide +kernel
theorem dX2_drop_26 : decode cX2_drop 26 = .ok (.ireturn, 1) := by decide +kernel
theorem dX2_drop_27 : decode cX2_drop 27 = .ok (.aload_n 3, 1) := by decide +kernel
theorem dX2_drop_28 : decode cX2_drop 28 = .ok (.iload_n 2, 1) := by decide +kernel
theorem dX2_drop_29 : decode cX2_drop 29 = .ok (.invokevirtual 56, 3) := by decide +kernel
theorem dX2_drop_32 : decode cX2_drop 32 = .ok (.ireturn, 1) := by decide +kernel
set_option maxRecDepth 20000 in
theorem ggX2_find_X2_rowOf : GoodIn wsX2_find wsX2_rowOf := goodIn_r _ [5, 6, 17, 18, 19, 20, 21, 22, 23] (by decide +kernel) (by decide +kernel)
set_option maxRecDepth 20000 in
theorem gX2_find_X2_rowOf : GoodIn wsX2_find (wsV RX2 23 RX2 yX2_rowOf wsX2_rowOf) := goodIn_app (goodIn_of _ (by decide +kernel)) ggX2_find_X2_rowOf
set_option maxRecDepth 20000 in
theorem ggX2_find_X2_isName : GoodIn wsX2_find wsX2_isName := goodIn_r _ [9] (by decide +kernel) (by decide +kernel)
set_option maxRecDepth 20000 in
theorem gX2_find_X2_isName : GoodIn wsX2_find (va_wsS RX2 27 yX2_isName wsX2_isName) := goodIn_app (goodIn_of _ (by decide +kernel)) ggX2_find_X2_isName
set_option maxRecDepth 20000 in
theorem ggX2_find_X1_placeOf : GoodIn wsX2_find wsX1_placeOf := goodIn_r _ [14, 15, 16, 24, 25, 26] (by decide +kernel) (by decide +kernel)
set_option maxRecDepth 20000 in
theorem gX2_find_X1_placeOf : GoodIn wsX2_find (wsV RX2 72 RX1 yX1_placeOf wsX1_placeOf) := goodIn_app (goodIn_of _ (by decide +kernel)) ggX2_find_X1_placeOf
theorem dX2_find_0 : decode cX2_find 0 = .ok (.aload_n 0, 1) := by decide +kernel
theorem dX2_find_1 : decode cX2_find 1 = .ok (.iload_n 1, 1) := by decide +kernel
theorem dX2_find_2 : decode cX2_find 2 = .ok (.invokevirtual 23, 3) := by decide +kernel
theorem dX2_find_5 : decode cX2_find 5 = .ok (.astore 4, 2) := by decide +kernel
theorem dX2_find_7 : decode cX2_find 7 = .ok (.aload 4, 2) := by decide +kernel
theorem dX2_find_9 : decode cX2_find 9 = .ok (.ifnull 10, 3) := by decide +kernel
theorem dX2_find_12 : decode cX2_find 12 = .ok (.iload_n 2, 1) := by decide +kernel
theorem dX2_find_13 : decode cX2_find 13 = .ok (.invokestatic 27, 3) := by decide +kernel
theorem dX2_find_16 : decode cX2_find 16 = .ok (.ifCond .ne 5, 3) := by decide +kernel
theorem dX2_find_19 : decode cX2_find 19 = .ok (.iconst (-1), 1) := by decide +kernel
theorem dX2_find_20 : decode cX2_find 20 = .ok (.ireturn, 1) := by decide +kernel
theorem dX2_find_21 : decode cX2_find 21 = .ok (.aload 4, 2) := by decide +kernel
theorem dX2_find_23 : decode cX2_find 23 = .ok (.iload_n 2, 1) := by decide +kernel
theorem dX2_find_24 : decode cX2_find 24 = .ok (.iload_n 3, 1) := by decide +kernel
theorem dX2_find_25 : decode cX2_find 25 = .ok (.invokevirtual 72, 3) := by decide +kernel
theorem dX2_find_28 : decode cX2_find 28 = .ok (.istore 5, 2) := by decide +kernel
theorem dX2_find_30 : decode cX2_find 30 = .ok (.iload 5, 2) := by decide +kernel
theorem dX2_find_32 : decode cX2_find 32 = .ok (.iconst (-1), 1) := by decide +kernel
theorem dX2_find_33 : decode cX2_find 33 = .ok (.if_icmp .ne 8, 3) := by decide +kernel
theorem dX2_find_36 : decode cX2_find 36 = .ok (.bipush (-6), 2) := by decide +kernel
theorem dX2_find_38 : decode cX2_find 38 = .ok (.goto 5, 3) := by decide +kernel
theorem dX2_find_41 : decode cX2_find 41 = .ok (.iload 5, 2) := by decide +kernel
theorem dX2_find_43 : decode cX2_find 43 = .ok (.ireturn, 1) := by decide +kernel
set_option maxRecDepth 20000 in
theorem ggX2_has_X2_rowOf : GoodIn wsX2_has wsX2_rowOf := goodIn_r _ [5, 6, 20, 21, 22, 23, 24, 25, 26] (by decide +kernel) (by decide +kernel)
set_option maxRecDepth 20000 in
theorem gX2_has_X2_rowOf : GoodIn wsX2_has (wsV RX2 23 RX2 yX2_rowOf wsX2_rowOf) := goodIn_app (goodIn_of _ (by decide +kernel)) ggX2_has_X2_rowOf
set_option maxRecDepth 20000 in
theorem ggX2_has_X2_isName : GoodIn wsX2_has wsX2_isName := goodIn_r _ [9] (by decide +kernel) (by decide +kernel)
set_option maxRecDepth 20000 in
theorem gX2_has_X2_isName : GoodIn wsX2_has (va_wsS RX2 27 yX2_isName wsX2_isName) := goodIn_app (goodIn_of _ (by decide +kernel)) ggX2_has_X2_isName
set_option maxRecDepth 20000 in
theorem ggX2_has_X1_placeOf : GoodIn wsX2_has wsX1_placeOf := goodIn_r _ [14, 15, 16, 27, 28, 29] (by decide +kernel) (by decide +kernel)
set_option maxRecDepth 20000 in
theorem gX2_has_X1_placeOf : GoodIn wsX2_has (wsV RX2 72 RX1 yX1_placeOf wsX1_placeOf) := goodIn_app (goodIn_of _ (by decide +kernel)) ggX2_has_X1_placeOf
set_option maxRecDepth 20000 in
theorem ggX2_has_X2_oneIf : GoodIn wsX2_has wsX2_oneIf := goodIn_r _ [19] (by decide +kernel) (by decide +kernel)
set_option maxRecDepth 20000 in
theorem gX2_has_X2_oneIf : GoodIn wsX2_has (va_wsS RX2 76 yX2_oneIf wsX2_oneIf) := goodIn_app (goodIn_of _ (by decide +kernel)) ggX2_has_X2_oneIf
theorem dX2_has_0 : decode cX2_has 0 = .ok (.aload_n 0, 1) := by decide +kernel
theorem dX2_has_1 : decode cX2_has 1 = .ok (.iload_n 1, 1) := by decide +kernel
theorem dX2_has_2 : decode cX2_has 2 = .ok (.invokevirtual 23, 3) := by decide +kernel
theorem dX2_has_5 : decode cX2_has 5 = .ok (.astore_n 3, 1) := by decide +kernel
theorem dX2_has_6 : decode cX2_has 6 = .ok (.aload_n 3, 1) := by decide +kernel
theorem dX2_has_7 : decode cX2_has 7 = .ok (.ifnull 10, 3) := by decide +kernel
theorem dX2_has_10 : decode cX2_has 10 = .ok (.iload_n 2, 1) := by decide +kernel
theorem dX2_has_11 : decode cX2_has 11 = .ok (.invokestatic 27, 3) := by decide +kernel
theorem dX2_has_14 : decode cX2_has 14 = .ok (.ifCond .ne 5, 3) := by decide +kernel
theorem dX2_has_17 : decode cX2_has 17 = .ok (.iconst (-1), 1) := by decide +kernel
theorem dX2_has_18 : decode cX2_has 18 = .ok (.ireturn, 1) := by decide +kernel
theorem dX2_has_19 : decode cX2_has 19 = .ok (.aload_n 3, 1) := by decide +kernel
theorem dX2_has_20 : decode cX2_has 20 = .ok (.iload_n 2, 1) := by decide +kernel
theorem dX2_has_21 : decode cX2_has 21 = .ok (.iconst 0, 1) := by decide +kernel
theorem dX2_has_22 : decode cX2_has 22 = .ok (.invokevirtual 72, 3) := by decide +kernel
theorem dX2_has_25 : decode cX2_has 25 = .ok (.iconst (-1), 1) := by decide +kernel
theorem dX2_has_26 : decode cX2_has 26 = .ok (.if_icmp .eq 7, 3) := by decide +kernel
theorem dX2_has_29 : decode cX2_has 29 = .ok (.iconst 1, 1) := by decide +kernel
theorem dX2_has_30 : decode cX2_has 30 = .ok (.goto 4, 3) := by decide +kernel
theorem dX2_has_33 : decode cX2_has 33 = .ok (.iconst 0, 1) := by decide +kernel
theorem dX2_has_34 : decode cX2_has 34 = .ok (.invokestatic 76, 3) := by decide +kernel
theorem dX2_has_37 : decode cX2_has 37 = .ok (.ireturn, 1) := by decide +kernel
set_option maxRecDepth 20000 in
theorem ggX2_lose_X2_rowOf : GoodIn wsX2_lose wsX2_rowOf := goodIn_r _ [5, 6, 26, 27, 28, 29, 30, 31, 32] (by decide +kernel) (by decide +kernel)
set_option maxRecDepth 20000 in
theorem gX2_lose_X2_rowOf : GoodIn wsX2_lose (wsV RX2 23 RX2 yX2_rowOf wsX2_rowOf) := goodIn_app (goodIn_of _ (by decide +kernel)) ggX2_lose_X2_rowOf
set_option maxRecDepth 20000 in
theorem ggX2_lose_X2_isName : GoodIn wsX2_lose wsX2_isName := goodIn_r _ [9] (by decide +kernel) (by decide +kernel)
set_option maxRecDepth 20000 in
theorem gX2_lose_X2_isName : GoodIn wsX2_lose (va_wsS RX2 27 yX2_isName wsX2_isName) := goodIn_app (goodIn_of _ (by decide +kernel)) ggX2_lose_X2_isName
set_option maxRecDepth 20000 in
theorem ggX2_lose_X1_placeOf : GoodIn wsX2_lose wsX1_placeOf := goodIn_r _ [14, 15, 16, 33, 34, 35] (by decide +kernel) (by decide +kernel)
set_option maxRecDepth 20000 in
theorem gX2_lose_X1_placeOf : GoodIn wsX2_lose (wsV RX2 72 RX1 yX1_placeOf wsX1_placeOf) := goodIn_app (goodIn_of _ (by decide +kernel)) ggX2_lose_X1_placeOf
set_option maxRecDepth 20000 in
theorem ggX2_lose_X1_takeAt : GoodIn wsX2_lose wsX1_takeAt := goodIn_r _ [20, 16, 15, 21, 22, 23, 13, 24, 25, 33, 34, 35] (by decide +kernel) (by decide +kernel)
set_option maxRecDepth 20000 in
theorem gX2_lose_X1_takeAt : GoodIn wsX2_lose (wsV RX2 56 RX1 yX1_takeAt wsX1_takeAt) := goodIn_app (goodIn_of _ (by decide +kernel)) ggX2_lose_X1_takeAt
theorem dX2_lose_0 : decode cX2_lose 0 = .ok (.aload_n 0, 1) := by decide +kernel
theorem dX2_lose_1 : decode cX2_lose 1 = .ok (.iload_n 1, 1) := by decide +kernel
theorem dX2_lose_2 : decode cX2_lose 2 = .ok (.invokevirtual 23, 3) := by decide +kernel
theorem dX2_lose_5 : decode cX2_lose 5 = .ok (.astore 4, 2) := by decide +kernel
theorem dX2_lose_7 : decode cX2_lose 7 = .ok (.aload 4, 2) := by decide +kernel
theorem dX2_lose_9 : decode cX2_lose 9 = .ok (.ifnull 19, 3) := by decide +kernel
theorem dX2_lose_12 : decode cX2_lose 12 = .ok (.iload_n 2, 1) := by decide +kernel
theorem dX2_lose_13 : decode cX2_lose 13 = .ok (.invokestatic 27, 3) := by decide +kernel
theorem dX2_lose_16 : decode cX2_lose 16 = .ok (.ifCond .eq 12, 3) := by decide +kernel
theorem dX2_lose_19 : decode cX2_lose 19 = .ok (.iload_n 3, 1) := by decide +kernel
theorem dX2_lose_20 : decode cX2_lose 20 = .ok (.ifCond .lt 8, 3) := by decide +kernel
theorem dX2_lose_23 : decode cX2_lose 23 = .ok (.iload_n 3, 1) := by decide +kernel
theorem dX2_lose_24 : decode cX2_lose 24 = .ok (.iconst 2, 1) := by decide +kernel
theorem dX2_lose_25 : decode cX2_lose 25 = .ok (.if_icmp .le 5, 3) := by decide +kernel
theorem dX2_lose_28 : decode cX2_lose 28 = .ok (.iconst (-1), 1) := by decide +kernel
theorem dX2_lose_29 : decode cX2_lose 29 = .ok (.ireturn, 1) := by decide +kernel
theorem dX2_lose_30 : decode cX2_lose 30 = .ok (.aload 4, 2) := by decide +kernel
theorem dX2_lose_32 : decode cX2_lose 32 = .ok (.iload_n 2, 1) := by decide +kernel
theorem dX2_lose_33 : decode cX2_lose 33 = .ok (.iload_n 3, 1) := by decide +kernel
theorem dX2_lose_34 : decode cX2_lose 34 = .ok (.iconst 2, 1) := by decide +kernel
theorem dX2_lose_35 : decode cX2_lose 35 = .ok (.if_icmp .ne 7, 3) := by decide +kernel
theorem dX2_lose_38 : decode cX2_lose 38 = .ok (.iconst 1, 1) := by decide +kernel
theorem dX2_lose_39 : decode cX2_lose 39 = .ok (.goto 4, 3) := by decide +kernel
theorem dX2_lose_42 : decode cX2_lose 42 = .ok (.iconst 0, 1) := by decide +kernel
theorem dX2_lose_43 : decode cX2_lose 43 = .ok (.invokevirtual 72, 3) := by decide +kernel
theorem dX2_lose_46 : decode cX2_lose 46 = .ok (.istore 5, 2) := by decide +kernel
theorem dX2_lose_48 : decode cX2_lose 48 = .ok (.iload 5, 2) := by decide +kernel
theorem dX2_lose_50 : decode cX2_lose 50 = .ok (.iconst (-1), 1) := by decide +kernel
theorem dX2_lose_51 : decode cX2_lose 51 = .ok (.if_icmp .ne 5, 3) := by decide +kernel
theorem dX2_lose_54 : decode cX2_lose 54 = .ok (.iconst 0, 1) := by decide +kernel
theorem dX2_lose_55 : decode cX2_lose 55 = .ok (.ireturn, 1) := by decide +kernel
theorem dX2_lose_56 : decode cX2_lose 56 = .ok (.aload 4, 2) := by decide +kernel
theorem dX2_lose_58 : decode cX2_lose 58 = .ok (.iload 5, 2) := by decide +kernel
theorem dX2_lose_60 : decode cX2_lose 60 = .ok (.invokevirtual 56, 3) := by decide +kernel
theorem dX2_lose_63 : decode cX2_lose 63 = .ok (.pop, 1) := by decide +kernel
theorem dX2_lose_64 : decode cX2_lose 64 = .ok (.iconst 1, 1) := by decide +kernel
theorem dX2_lose_65 : decode cX2_lose 65 = .ok (.ireturn, 1) := by decide +kernel
set_option maxRecDepth 20000 in
theorem ggX2_all_X2_rowOf : GoodIn wsX2_all wsX2_rowOf := goodIn_r _ [5, 6, 38, 39, 40, 41, 42, 43, 44] (by decide +kernel) (by decide +kernel)
set_option maxRecDepth 20000 in
theorem gX2_all_X2_rowOf : GoodIn wsX2_all (wsV RX2 23 RX2 yX2_rowOf wsX2_rowOf) := goodIn_app (goodIn_of _ (by decide +kernel)) ggX2_all_X2_rowOf
set_option maxRecDepth 20000 in
theorem ggX2_all_X1_hasRoomFor : GoodIn wsX2_all wsX1_hasRoomFor := goodIn_r _ [11, 12, 35, 36, 37] (by decide +kernel) (by decide +kernel)
set_option maxRecDepth 20000 in
theorem gX2_all_X1_hasRoomFor : GoodIn wsX2_all (wsV RX2 31 RX1 yX1_hasRoomFor wsX1_hasRoomFor) := goodIn_app (goodIn_of _ (by decide +kernel)) ggX2_all_X1_hasRoomFor
set_option maxRecDepth 20000 in
theorem ggX2_all_X1_canPutAt : GoodIn wsX2_all wsX1_canPutAt := goodIn_r _ [16, 12, 35, 36, 37] (by decide +kernel) (by decide +kernel)
set_option maxRecDepth 20000 in
theorem gX2_all_X1_canPutAt : GoodIn wsX2_all (wsV RX2 69 RX1 yX1_canPutAt wsX1_canPutAt) := goodIn_app (goodIn_of _ (by decide +kernel)) ggX2_all_X1_canPutAt
set_option maxRecDepth 20000 in
theorem ggX2_all_X2_refused : GoodIn wsX2_all wsX2_refused := goodIn_r _ [20, 21, 22, 23, 24, 38, 39, 40, 41, 42, 43, 44] (by decide +kernel) (by decide +kernel)
set_option maxRecDepth 20000 in
theorem gX2_all_X2_refused : GoodIn wsX2_all (wsV RX2 62 RX2 yX2_refused wsX2_refused) := goodIn_app (goodIn_of _ (by decide +kernel)) ggX2_all_X2_refused
set_option maxRecDepth 20000 in
theorem ggX2_all_X1_putAllAt : GoodIn wsX2_all wsX1_putAllAt := goodIn_r _ [28, 12, 29, 30, 31, 32, 10, 33, 34, 35, 36, 37] (by decide +kernel) (by decide +kernel)
set_option maxRecDepth 20000 in
theorem gX2_all_X1_putAllAt : GoodIn wsX2_all (wsV RX2 80 RX1 yX1_putAllAt wsX1_putAllAt) := goodIn_app (goodIn_of _ (by decide +kernel)) ggX2_all_X1_putAllAt
theorem dX2_all_0 : decode cX2_all 0 = .ok (.aload_n 0, 1) := by decide +kernel
theorem dX2_all_1 : decode cX2_all 1 = .ok (.iload_n 1, 1) := by decide +kernel
theorem dX2_all_2 : decode cX2_all 2 = .ok (.invokevirtual 23, 3) := by decide +kernel
theorem dX2_all_5 : decode cX2_all 5 = .ok (.astore 4, 2) := by decide +kernel
theorem dX2_all_7 : decode cX2_all 7 = .ok (.aload_n 0, 1) := by decide +kernel
theorem dX2_all_8 : decode cX2_all 8 = .ok (.iload_n 3, 1) := by decide +kernel
theorem dX2_all_9 : decode cX2_all 9 = .ok (.invokevirtual 23, 3) := by decide +kernel
theorem dX2_all_12 : decode cX2_all 12 = .ok (.astore 5, 2) := by decide +kernel
theorem dX2_all_14 : decode cX2_all 14 = .ok (.aload 4, 2) := by decide +kernel
theorem dX2_all_16 : decode cX2_all 16 = .ok (.ifnull 15, 3) := by decide +kernel
theorem dX2_all_19 : decode cX2_all 19 = .ok (.aload 5, 2) := by decide +kernel
theorem dX2_all_21 : decode cX2_all 21 = .ok (.ifnull 10, 3) := by decide +kernel
theorem dX2_all_24 : decode cX2_all 24 = .ok (.aload 4, 2) := by decide +kernel
theorem dX2_all_26 : decode cX2_all 26 = .ok (.aload 5, 2) := by decide +kernel
theorem dX2_all_28 : decode cX2_all 28 = .ok (.if_acmp .ne 5, 3) := by decide +kernel
theorem dX2_all_31 : decode cX2_all 31 = .ok (.iconst (-1), 1) := by decide +kernel
theorem dX2_all_32 : decode cX2_all 32 = .ok (.ireturn, 1) := by decide +kernel
theorem dX2_all_33 : decode cX2_all 33 = .ok (.aload 5, 2) := by decide +kernel
theorem dX2_all_35 : decode cX2_all 35 = .ok (.getfield 34, 3) := by decide +kernel
theorem dX2_all_38 : decode cX2_all 38 = .ok (.ifCond .ne 9, 3) := by decide +kernel
theorem dX2_all_41 : decode cX2_all 41 = .ok (.aload 4, 2) := by decide +kernel
theorem dX2_all_43 : decode cX2_all 43 = .ok (.getfield 34, 3) := by decide +kernel
theorem dX2_all_46 : decode cX2_all 46 = .ok (.ireturn, 1) := by decide +kernel
theorem dX2_all_47 : decode cX2_all 47 = .ok (.aload 4, 2) := by decide +kernel
theorem dX2_all_49 : decode cX2_all 49 = .ok (.aload 5, 2) := by decide +kernel
theorem dX2_all_51 : decode cX2_all 51 = .ok (.getfield 34, 3) := by decide +kernel
theorem dX2_all_54 : decode cX2_all 54 = .ok (.invokevirtual 31, 3) := by decide +kernel
theorem dX2_all_57 : decode cX2_all 57 = .ok (.ifCond .ne 6, 3) := by decide +kernel
theorem dX2_all_60 : decode cX2_all 60 = .ok (.bipush (-3), 2) := by decide +kernel
theorem dX2_all_62 : decode cX2_all 62 = .ok (.ireturn, 1) := by decide +kernel
theorem dX2_all_63 : decode cX2_all 63 = .ok (.iload_n 2, 1) := by decide +kernel
theorem dX2_all_64 : decode cX2_all 64 = .ok (.iconst (-1), 1) := by decide +kernel
theorem dX2_all_65 : decode cX2_all 65 = .ok (.if_icmp .ne 11, 3) := by decide +kernel
theorem dX2_all_68 : decode cX2_all 68 = .ok (.aload 4, 2) := by decide +kernel
theorem dX2_all_70 : decode cX2_all 70 = .ok (.getfield 34, 3) := by decide +kernel
theorem dX2_all_73 : decode cX2_all 73 = .ok (.goto 4, 3) := by decide +kernel
theorem dX2_all_76 : decode cX2_all 76 = .ok (.iload_n 2, 1) := by decide +kernel
theorem dX2_all_77 : decode cX2_all 77 = .ok (.istore 6, 2) := by decide +kernel
theorem dX2_all_79 : decode cX2_all 79 = .ok (.aload 4, 2) := by decide +kernel
theorem dX2_all_81 : decode cX2_all 81 = .ok (.iload 6, 2) := by decide +kernel
theorem dX2_all_83 : decode cX2_all 83 = .ok (.invokevirtual 69, 3) := by decide +kernel
theorem dX2_all_86 : decode cX2_all 86 = .ok (.ifCond .ne 10, 3) := by decide +kernel
theorem dX2_all_89 : decode cX2_all 89 = .ok (.aload_n 0, 1) := by decide +kernel
theorem dX2_all_90 : decode cX2_all 90 = .ok (.bipush (-5), 2) := by decide +kernel
theorem dX2_all_92 : decode cX2_all 92 = .ok (.invokevirtual 62, 3) := by decide +kernel
theorem dX2_all_95 : decode cX2_all 95 = .ok (.ireturn, 1) := by decide +kernel
theorem dX2_all_96 : decode cX2_all 96 = .ok (.aload 4, 2) := by decide +kernel
theorem dX2_all_98 : decode cX2_all 98 = .ok (.iload 6, 2) := by decide +kernel
theorem dX2_all_100 : decode cX2_all 100 = .ok (.aload 5, 2) := by decide +kernel
theorem dX2_all_102 : decode cX2_all 102 = .ok (.invokevirtual 80, 3) := by decide +kernel
theorem dX2_all_105 : decode cX2_all 105 = .ok (.aload 4, 2) := by decide +kernel
theorem dX2_all_107 : decode cX2_all 107 = .ok (.getfield 34, 3) := by decide +kernel
theorem dX2_all_110 : decode cX2_all 110 = .ok (.ireturn, 1) := by decide +kernel
set_option maxRecDepth 20000 in
theorem ggX2_clear_X2_rowOf : GoodIn wsX2_clear wsX2_rowOf := goodIn_r _ [5, 6, 17, 18, 19, 20, 21, 22, 23] (by decide +kernel) (by decide +kernel)
set_option maxRecDepth 20000 in
theorem gX2_clear_X2_rowOf : GoodIn wsX2_clear (wsV RX2 23 RX2 yX2_rowOf wsX2_rowOf) := goodIn_app (goodIn_of _ (by decide +kernel)) ggX2_clear_X2_rowOf
set_option maxRecDepth 20000 in
theorem ggX2_clear_X1_keepFirst : GoodIn wsX2_clear wsX1_keepFirst := goodIn_r _ [11, 12, 13, 14, 15, 16] (by decide +kernel) (by decide +kernel)
set_option maxRecDepth 20000 in
theorem gX2_clear_X1_keepFirst : GoodIn wsX2_clear (wsV RX2 84 RX1 yX1_keepFirst wsX1_keepFirst) := goodIn_app (goodIn_of _ (by decide +kernel)) ggX2_clear_X1_keepFirst
theorem dX2_clear_0 : decode cX2_clear 0 = .ok (.aload_n 0, 1) := by decide +kernel
theorem dX2_clear_1 : decode cX2_clear 1 = .ok (.iload_n 1, 1) := by decide +kernel
theorem dX2_clear_2 : decode cX2_clear 2 = .ok (.invokevirtual 23, 3) := by decide +kernel
theorem dX2_clear_5 : decode cX2_clear 5 = .ok (.astore_n 2, 1) := by decide +kernel
theorem dX2_clear_6 : decode cX2_clear 6 = .ok (.aload_n 2, 1) := by decide +kernel
theorem dX2_clear_7 : decode cX2_clear 7 = .ok (.ifnonnull 5, 3) := by decide +kernel
theorem dX2_clear_10 : decode cX2_clear 10 = .ok (.iconst (-1), 1) := by decide +kernel
theorem dX2_clear_11 : decode cX2_clear 11 = .ok (.ireturn, 1) := by decide +kernel
theorem dX2_clear_12 : decode cX2_clear 12 = .ok (.aload_n 2, 1) := by decide +kernel
theorem dX2_clear_13 : decode cX2_clear 13 = .ok (.getfield 34, 3) := by decide +kernel
theorem dX2_clear_16 : decode cX2_clear 16 = .ok (.istore_n 3, 1) := by decide +kernel
theorem dX2_clear_17 : decode cX2_clear 17 = .ok (.aload_n 2, 1) := by decide +kernel
theorem dX2_clear_18 : decode cX2_clear 18 = .ok (.iconst 0, 1) := by decide +kernel
theorem dX2_clear_19 : decode cX2_clear 19 = .ok (.invokevirtual 84, 3) := by decide +kernel
theorem dX2_clear_22 : decode cX2_clear 22 = .ok (.iload_n 3, 1) := by decide +kernel
theorem dX2_clear_23 : decode cX2_clear 23 = .ok (.ireturn, 1) := by decide +kernel
set_option maxRecDepth 20000 in
theorem ggX2_copy_X2_rowOf : GoodIn wsX2_copy wsX2_rowOf := goodIn_r _ [6, 7, 21, 22, 23, 24, 25, 26, 27] (by decide +kernel) (by decide +kernel)
set_option maxRecDepth 20000 in
theorem gX2_copy_X2_rowOf : GoodIn wsX2_copy (wsV RX2 23 RX2 yX2_rowOf wsX2_rowOf) := goodIn_app (goodIn_of _ (by decide +kernel)) ggX2_copy_X2_rowOf
set_option maxRecDepth 20000 in
theorem ggX2_copy_X0_leave : GoodIn wsX2_copy wsX0_leave := goodIn_r _ [12, 13, 31, 32, 33, 34, 35, 36] (by decide +kernel) (by decide +kernel)
set_option maxRecDepth 20000 in
theorem gX2_copy_X0_leave : GoodIn wsX2_copy (wsV RX2 88 RX0 yX0_leave wsX0_leave) := goodIn_app (goodIn_of _ (by decide +kernel)) ggX2_copy_X0_leave
set_option maxRecDepth 20000 in
theorem ggX2_copy_X1_becomeLike : GoodIn wsX2_copy wsX1_becomeLike := goodIn_r _ [18, 19, 20, 28, 29, 30] (by decide +kernel) (by decide +kernel)
set_option maxRecDepth 20000 in
theorem gX2_copy_X1_becomeLike : GoodIn wsX2_copy (wsV RX2 92 RX1 yX1_becomeLike wsX1_becomeLike) := goodIn_app (goodIn_of _ (by decide +kernel)) ggX2_copy_X1_becomeLike
theorem dX2_copy_0 : decode cX2_copy 0 = .ok (.aload_n 0, 1) := by decide +kernel
theorem dX2_copy_1 : decode cX2_copy 1 = .ok (.iload_n 1, 1) := by decide +kernel
theorem dX2_copy_2 : decode cX2_copy 2 = .ok (.invokevirtual 23, 3) := by decide +kernel
theorem dX2_copy_5 : decode cX2_copy 5 = .ok (.astore_n 3, 1) := by decide +kernel
theorem dX2_copy_6 : decode cX2_copy 6 = .ok (.aload_n 0, 1) := by decide +kernel
theorem dX2_copy_7 : decode cX2_copy 7 = .ok (.iload_n 2, 1) := by decide +kernel
theorem dX2_copy_8 : decode cX2_copy 8 = .ok (.invokevirtual 23, 3) := by decide +kernel
theorem dX2_copy_11 : decode cX2_copy 11 = .ok (.astore 4, 2) := by decide +kernel
theorem dX2_copy_13 : decode cX2_copy 13 = .ok (.aload_n 3, 1) := by decide +kernel
theorem dX2_copy_14 : decode cX2_copy 14 = .ok (.ifnull 14, 3) := by decide +kernel
theorem dX2_copy_17 : decode cX2_copy 17 = .ok (.aload 4, 2) := by decide +kernel
theorem dX2_copy_19 : decode cX2_copy 19 = .ok (.ifnull 9, 3) := by decide +kernel
theorem dX2_copy_22 : decode cX2_copy 22 = .ok (.aload_n 3, 1) := by decide +kernel
theorem dX2_copy_23 : decode cX2_copy 23 = .ok (.aload 4, 2) := by decide +kernel
theorem dX2_copy_25 : decode cX2_copy 25 = .ok (.if_acmp .ne 5, 3) := by decide +kernel
theorem dX2_copy_28 : decode cX2_copy 28 = .ok (.iconst (-1), 1) := by decide +kernel
theorem dX2_copy_29 : decode cX2_copy 29 = .ok (.ireturn, 1) := by decide +kernel
theorem dX2_copy_30 : decode cX2_copy 30 = .ok (.iconst 0, 1) := by decide +kernel
theorem dX2_copy_31 : decode cX2_copy 31 = .ok (.istore 5, 2) := by decide +kernel
theorem dX2_copy_33 : decode cX2_copy 33 = .ok (.iload 5, 2) := by decide +kernel
theorem dX2_copy_35 : decode cX2_copy 35 = .ok (.aload_n 0, 1) := by decide +kernel
theorem dX2_copy_36 : decode cX2_copy 36 = .ok (.getfield 17, 3) := by decide +kernel
theorem dX2_copy_39 : decode cX2_copy 39 = .ok (.arraylength, 1) := by decide +kernel
theorem dX2_copy_40 : decode cX2_copy 40 = .ok (.if_icmp .ge 20, 3) := by decide +kernel
theorem dX2_copy_43 : decode cX2_copy 43 = .ok (.aload_n 0, 1) := by decide +kernel
theorem dX2_copy_44 : decode cX2_copy 44 = .ok (.getfield 17, 3) := by decide +kernel
theorem dX2_copy_47 : decode cX2_copy 47 = .ok (.iload 5, 2) := by decide +kernel
theorem dX2_copy_49 : decode cX2_copy 49 = .ok (.aaload, 1) := by decide +kernel
theorem dX2_copy_50 : decode cX2_copy 50 = .ok (.aload_n 3, 1) := by decide +kernel
theorem dX2_copy_51 : decode cX2_copy 51 = .ok (.invokevirtual 88, 3) := by decide +kernel
theorem dX2_copy_54 : decode cX2_copy 54 = .ok (.iinc 5 1, 3) := by decide +kernel
theorem dX2_copy_57 : decode cX2_copy 57 = .ok (.goto (-24), 3) := by decide +kernel
theorem dX2_copy_60 : decode cX2_copy 60 = .ok (.aload_n 3, 1) := by decide +kernel
theorem dX2_copy_61 : decode cX2_copy 61 = .ok (.aload 4, 2) := by decide +kernel
theorem dX2_copy_63 : decode cX2_copy 63 = .ok (.invokevirtual 92, 3) := by decide +kernel
theorem dX2_copy_66 : decode cX2_copy 66 = .ok (.aload_n 3, 1) := by decide +kernel
theorem dX2_copy_67 : decode cX2_copy 67 = .ok (.getfield 34, 3) := by decide +kernel
theorem dX2_copy_70 : decode cX2_copy 70 = .ok (.ireturn, 1) := by decide +kernel
set_option maxRecDepth 20000 in
theorem ggX2_turn_X2_rowOf : GoodIn wsX2_turn wsX2_rowOf := goodIn_r _ [5, 6, 21, 22, 23, 24, 25, 26, 27] (by decide +kernel) (by decide +kernel)
set_option maxRecDepth 20000 in
theorem gX2_turn_X2_rowOf : GoodIn wsX2_turn (wsV RX2 23 RX2 yX2_rowOf wsX2_rowOf) := goodIn_app (goodIn_of _ (by decide +kernel)) ggX2_turn_X2_rowOf
set_option maxRecDepth 20000 in
theorem ggX2_turn_X1_turnRound : GoodIn wsX2_turn wsX1_turnRound := goodIn_r _ [11, 12, 13, 14, 15, 16, 10, 17, 18, 19, 20] (by decide +kernel) (by decide +kernel)
set_option maxRecDepth 20000 in
theorem gX2_turn_X1_turnRound : GoodIn wsX2_turn (wsV RX2 95 RX1 yX1_turnRound wsX1_turnRound) := goodIn_app (goodIn_of _ (by decide +kernel)) ggX2_turn_X1_turnRound
theorem dX2_turn_0 : decode cX2_turn 0 = .ok (.aload_n 0, 1) := by decide +kernel
theorem dX2_turn_1 : decode cX2_turn 1 = .ok (.iload_n 1, 1) := by decide +kernel
theorem dX2_turn_2 : decode cX2_turn 2 = .ok (.invokevirtual 23, 3) := by decide +kernel
theorem dX2_turn_5 : decode cX2_turn 5 = .ok (.astore_n 2, 1) := by decide +kernel
theorem dX2_turn_6 : decode cX2_turn 6 = .ok (.aload_n 2, 1) := by decide +kernel
theorem dX2_turn_7 : decode cX2_turn 7 = .ok (.ifnonnull 5, 3) := by decide +kernel
theorem dX2_turn_10 : decode cX2_turn 10 = .ok (.iconst (-1), 1) := by decide +kernel
theorem dX2_turn_11 : decode cX2_turn 11 = .ok (.ireturn, 1) := by decide +kernel
theorem dX2_turn_12 : decode cX2_turn 12 = .ok (.aload_n 2, 1) := by decide +kernel
theorem dX2_turn_13 : decode cX2_turn 13 = .ok (.invokevirtual 95, 3) := by decide +kernel
theorem dX2_turn_16 : decode cX2_turn 16 = .ok (.aload_n 2, 1) := by decide +kernel
theorem dX2_turn_17 : decode cX2_turn 17 = .ok (.getfield 34, 3) := by decide +kernel
theorem dX2_turn_20 : decode cX2_turn 20 = .ok (.ireturn, 1) := by decide +kernel
set_option maxRecDepth 20000 in
theorem ggX2_weave_X2_rowOf : GoodIn wsX2_weave wsX2_rowOf := goodIn_r _ [5, 6, 30, 31, 32, 33, 34, 35, 36] (by decide +kernel) (by decide +kernel)
set_option maxRecDepth 20000 in
theorem gX2_weave_X2_rowOf : GoodIn wsX2_weave (wsV RX2 23 RX2 yX2_rowOf wsX2_rowOf) := goodIn_app (goodIn_of _ (by decide +kernel)) ggX2_weave_X2_rowOf
set_option maxRecDepth 20000 in
theorem ggX2_weave_X1_hasRoomFor : GoodIn wsX2_weave wsX1_hasRoomFor := goodIn_r _ [11, 12, 27, 28, 29] (by decide +kernel) (by decide +kernel)
set_option maxRecDepth 20000 in
theorem gX2_weave_X1_hasRoomFor : GoodIn wsX2_weave (wsV RX2 31 RX1 yX1_hasRoomFor wsX1_hasRoomFor) := goodIn_app (goodIn_of _ (by decide +kernel)) ggX2_weave_X1_hasRoomFor
set_option maxRecDepth 20000 in
theorem ggX2_weave_X1_weaveIn : GoodIn wsX2_weave wsX1_weaveIn := goodIn_r _ [16, 12, 17, 18, 19, 20, 21, 22, 23, 24, 10, 25, 26, 27, 28, 29] (by decide +kernel) (by decide +kernel)
set_option maxRecDepth 20000 in
theorem gX2_weave_X1_weaveIn : GoodIn wsX2_weave (wsV RX2 98 RX1 yX1_weaveIn wsX1_weaveIn) := goodIn_app (goodIn_of _ (by decide +kernel)) ggX2_weave_X1_weaveIn
theorem dX2_weave_0 : decode cX2_weave 0 = .ok (.aload_n 0, 1) := by decide +kernel
theorem dX2_weave_1 : decode cX2_weave 1 = .ok (.iload_n 1, 1) := by decide +kernel
theorem dX2_weave_2 : decode cX2_weave 2 = .ok (.invokevirtual 23, 3) := by decide +kernel
theorem dX2_weave_5 : decode cX2_weave 5 = .ok (.astore_n 3, 1) := by decide +kernel
theorem dX2_weave_6 : decode cX2_weave 6 = .ok (.aload_n 0, 1) := by decide +kernel
theorem dX2_weave_7 : decode cX2_weave 7 = .ok (.iload_n 2, 1) := by decide +kernel
theorem dX2_weave_8 : decode cX2_weave 8 = .ok (.invokevirtual 23, 3) := by decide +kernel
theorem dX2_weave_11 : decode cX2_weave 11 = .ok (.astore 4, 2) := by decide +kernel
theorem dX2_weave_13 : decode cX2_weave 13 = .ok (.aload_n 3, 1) := by decide +kernel
theorem dX2_weave_14 : decode cX2_weave 14 = .ok (.ifnull 14, 3) := by decide +kernel
theorem dX2_weave_17 : decode cX2_weave 17 = .ok (.aload 4, 2) := by decide +kernel
theorem dX2_weave_19 : decode cX2_weave 19 = .ok (.ifnull 9, 3) := by decide +kernel
theorem dX2_weave_22 : decode cX2_weave 22 = .ok (.aload_n 3, 1) := by decide +kernel
theorem dX2_weave_23 : decode cX2_weave 23 = .ok (.aload 4, 2) := by decide +kernel
theorem dX2_weave_25 : decode cX2_weave 25 = .ok (.if_acmp .ne 5, 3) := by decide +kernel
theorem dX2_weave_28 : decode cX2_weave 28 = .ok (.iconst (-1), 1) := by decide +kernel
theorem dX2_weave_29 : decode cX2_weave 29 = .ok (.ireturn, 1) := by decide +kernel
theorem dX2_weave_30 : decode cX2_weave 30 = .ok (.aload_n 3, 1) := by decide +kernel
theorem dX2_weave_31 : decode cX2_weave 31 = .ok (.aload 4, 2) := by decide +kernel
theorem dX2_weave_33 : decode cX2_weave 33 = .ok (.getfield 34, 3) := by decide +kernel
theorem dX2_weave_36 : decode cX2_weave 36 = .ok (.invokevirtual 31, 3) := by decide +kernel
theorem dX2_weave_39 : decode cX2_weave 39 = .ok (.ifCond .ne 6, 3) := by decide +kernel
theorem dX2_weave_42 : decode cX2_weave 42 = .ok (.bipush (-3), 2) := by decide +kernel
theorem dX2_weave_44 : decode cX2_weave 44 = .ok (.ireturn, 1) := by decide +kernel
theorem dX2_weave_45 : decode cX2_weave 45 = .ok (.aload 4, 2) := by decide +kernel
theorem dX2_weave_47 : decode cX2_weave 47 = .ok (.getfield 34, 3) := by decide +kernel
theorem dX2_weave_50 : decode cX2_weave 50 = .ok (.ifCond .le 9, 3) := by decide +kernel
theorem dX2_weave_53 : decode cX2_weave 53 = .ok (.aload_n 3, 1) := by decide +kernel
theorem dX2_weave_54 : decode cX2_weave 54 = .ok (.aload 4, 2) := by decide +kernel
theorem dX2_weave_56 : decode cX2_weave 56 = .ok (.invokevirtual 98, 3) := by decide +kernel
theorem dX2_weave_59 : decode cX2_weave 59 = .ok (.aload_n 3, 1) := by decide +kernel
theorem dX2_weave_60 : decode cX2_weave 60 = .ok (.getfield 34, 3) := by decide +kernel
theorem dX2_weave_63 : decode cX2_weave 63 = .ok (.ireturn, 1) := by decide +kernel
set_option maxRecDepth 20000 in
theorem ggX2_prune_X2_rowOf : GoodIn wsX2_prune wsX2_rowOf := goodIn_r _ [5, 6, 19, 20, 21, 22, 23, 24, 25] (by decide +kernel) (by decide +kernel)
set_option maxRecDepth 20000 in
theorem gX2_prune_X2_rowOf : GoodIn wsX2_prune (wsV RX2 23 RX2 yX2_rowOf wsX2_rowOf) := goodIn_app (goodIn_of _ (by decide +kernel)) ggX2_prune_X2_rowOf
set_option maxRecDepth 20000 in
theorem ggX2_prune_X1_takeRepeats : GoodIn wsX2_prune wsX1_takeRepeats := goodIn_r _ [11, 12, 13, 14, 15, 16, 10, 17, 18, 26, 27, 28] (by decide +kernel) (by decide +kernel)
set_option maxRecDepth 20000 in
theorem gX2_prune_X1_takeRepeats : GoodIn wsX2_prune (wsV RX2 101 RX1 yX1_takeRepeats wsX1_takeRepeats) := goodIn_app (goodIn_of _ (by decide +kernel)) ggX2_prune_X1_takeRepeats
theorem dX2_prune_0 : decode cX2_prune 0 = .ok (.aload_n 0, 1) := by decide +kernel
theorem dX2_prune_1 : decode cX2_prune 1 = .ok (.iload_n 1, 1) := by decide +kernel
theorem dX2_prune_2 : decode cX2_prune 2 = .ok (.invokevirtual 23, 3) := by decide +kernel
theorem dX2_prune_5 : decode cX2_prune 5 = .ok (.astore_n 2, 1) := by decide +kernel
theorem dX2_prune_6 : decode cX2_prune 6 = .ok (.aload_n 2, 1) := by decide +kernel
theorem dX2_prune_7 : decode cX2_prune 7 = .ok (.ifnonnull 5, 3) := by decide +kernel
theorem dX2_prune_10 : decode cX2_prune 10 = .ok (.iconst (-1), 1) := by decide +kernel
theorem dX2_prune_11 : decode cX2_prune 11 = .ok (.ireturn, 1) := by decide +kernel
theorem dX2_prune_12 : decode cX2_prune 12 = .ok (.aload_n 2, 1) := by decide +kernel
theorem dX2_prune_13 : decode cX2_prune 13 = .ok (.invokevirtual 101, 3) := by decide +kernel
theorem dX2_prune_16 : decode cX2_prune 16 = .ok (.ireturn, 1) := by decide +kernel
set_option maxRecDepth 20000 in
theorem ggX2_size_X2_rowOf : GoodIn wsX2_size wsX2_rowOf := goodIn_r _ [5, 6, 10, 11, 12, 13, 14, 15, 16] (by decide +kernel) (by decide +kernel)
set_option maxRecDepth 20000 in
theorem gX2_size_X2_rowOf : GoodIn wsX2_size (wsV RX2 23 RX2 yX2_rowOf wsX2_rowOf) := goodIn_app (goodIn_of _ (by decide +kernel)) ggX2_size_X2_rowOf
theorem dX2_size_0 : decode cX2_size 0 = .ok (.aload_n 0, 1) := by decide +kernel
theorem dX2_size_1 : decode cX2_size 1 = .ok (.iload_n 1, 1) := by decide +kernel
theorem dX2_size_2 : decode cX2_size 2 = .ok (.invokevirtual 23, 3) := by decide +kernel
theorem dX2_size_5 : decode cX2_size 5 = .ok (.astore_n 2, 1) := by decide +kernel
theorem dX2_size_6 : decode cX2_size 6 = .ok (.aload_n 2, 1) := by decide +kernel
theorem dX2_size_7 : decode cX2_size 7 = .ok (.ifnonnull 5, 3) := by decide +kernel
theorem dX2_size_10 : decode cX2_size 10 = .ok (.iconst (-1), 1) := by decide +kernel
theorem dX2_size_11 : decode cX2_size 11 = .ok (.ireturn, 1) := by decide +kernel
theorem dX2_size_12 : decode cX2_size 12 = .ok (.aload_n 2, 1) := by decide +kernel
theorem dX2_size_13 : decode cX2_size 13 = .ok (.getfield 34, 3) := by decide +kernel
theorem dX2_size_16 : decode cX2_size 16 = .ok (.ireturn, 1) := by decide +kernel
set_option maxRecDepth 20000 in
theorem ggX2_sum_X2_rowOf : GoodIn wsX2_sum wsX2_rowOf := goodIn_r _ [5, 6, 15, 16, 17, 18, 19, 20, 21] (by decide +kernel) (by decide +kernel)
set_option maxRecDepth 20000 in
theorem gX2_sum_X2_rowOf : GoodIn wsX2_sum (wsV RX2 23 RX2 yX2_rowOf wsX2_rowOf) := goodIn_app (goodIn_of _ (by decide +kernel)) ggX2_sum_X2_rowOf
set_option maxRecDepth 20000 in
theorem ggX2_sum_X1_number : GoodIn wsX2_sum wsX1_number := goodIn_r _ [11, 12, 13, 14, 22, 23, 24] (by decide +kernel) (by decide +kernel)
set_option maxRecDepth 20000 in
theorem gX2_sum_X1_number : GoodIn wsX2_sum (wsV RX2 105 RX1 yX1_number wsX1_number) := goodIn_app (goodIn_of _ (by decide +kernel)) ggX2_sum_X1_number
theorem dX2_sum_0 : decode cX2_sum 0 = .ok (.aload_n 0, 1) := by decide +kernel
theorem dX2_sum_1 : decode cX2_sum 1 = .ok (.iload_n 1, 1) := by decide +kernel
theorem dX2_sum_2 : decode cX2_sum 2 = .ok (.invokevirtual 23, 3) := by decide +kernel
theorem dX2_sum_5 : decode cX2_sum 5 = .ok (.astore_n 2, 1) := by decide +kernel
theorem dX2_sum_6 : decode cX2_sum 6 = .ok (.aload_n 2, 1) := by decide +kernel
theorem dX2_sum_7 : decode cX2_sum 7 = .ok (.ifnonnull 5, 3) := by decide +kernel
theorem dX2_sum_10 : decode cX2_sum 10 = .ok (.iconst (-1), 1) := by decide +kernel
theorem dX2_sum_11 : decode cX2_sum 11 = .ok (.ireturn, 1) := by decide +kernel
theorem dX2_sum_12 : decode cX2_sum 12 = .ok (.aload_n 2, 1) := by decide +kernel
theorem dX2_sum_13 : decode cX2_sum 13 = .ok (.invokevirtual 105, 3) := by decide +kernel
theorem dX2_sum_16 : decode cX2_sum 16 = .ok (.ireturn, 1) := by decide +kernel
set_option maxRecDepth 20000 in
theorem ggX2_peg_X2_pegOf : GoodIn wsX2_peg wsX2_pegOf := goodIn_r _ [5, 6, 36, 37, 38, 39, 40, 41, 42] (by decide +kernel) (by decide +kernel)
set_option maxRecDepth 20000 in
theorem gX2_peg_X2_pegOf : GoodIn wsX2_peg (wsV RX2 108 RX2 yX2_pegOf wsX2_pegOf) := goodIn_app (goodIn_of _ (by decide +kernel)) ggX2_peg_X2_pegOf
set_option maxRecDepth 20000 in
theorem ggX2_peg_X2_rowOf : GoodIn wsX2_peg wsX2_rowOf := goodIn_r _ [10, 11, 36, 37, 38, 39, 40, 41, 42] (by decide +kernel) (by decide +kernel)
set_option maxRecDepth 20000 in
theorem gX2_peg_X2_rowOf : GoodIn wsX2_peg (wsV RX2 23 RX2 yX2_rowOf wsX2_rowOf) := goodIn_app (goodIn_of _ (by decide +kernel)) ggX2_peg_X2_rowOf
set_option maxRecDepth 20000 in
theorem ggX2_peg_X1_canPutAt : GoodIn wsX2_peg wsX1_canPutAt := goodIn_r _ [16, 17, 43, 44, 45] (by decide +kernel) (by decide +kernel)
set_option maxRecDepth 20000 in
theorem gX2_peg_X1_canPutAt : GoodIn wsX2_peg (wsV RX2 69 RX1 yX1_canPutAt wsX1_canPutAt) := goodIn_app (goodIn_of _ (by decide +kernel)) ggX2_peg_X1_canPutAt
set_option maxRecDepth 20000 in
theorem ggX2_peg_X2_refused : GoodIn wsX2_peg wsX2_refused := goodIn_r _ [21, 22, 23, 24, 25, 36, 37, 38, 39, 40, 41, 42] (by decide +kernel) (by decide +kernel)
set_option maxRecDepth 20000 in
theorem gX2_peg_X2_refused : GoodIn wsX2_peg (wsV RX2 62 RX2 yX2_refused wsX2_refused) := goodIn_app (goodIn_of _ (by decide +kernel)) ggX2_peg_X2_refused
set_option maxRecDepth 20000 in
theorem ggX2_peg_X0_standIn : GoodIn wsX2_peg wsX0_standIn := goodIn_r _ [30, 31, 32, 33, 34, 35, 46, 47, 48, 49, 50, 51, 43, 44, 45] (by decide +kernel) (by decide +kernel)
set_option maxRecDepth 20000 in
theorem gX2_peg_X0_standIn : GoodIn wsX2_peg (wsV RX2 112 RX0 yX0_standIn wsX0_standIn) := goodIn_app (goodIn_of _ (by decide +kernel)) ggX2_peg_X0_standIn
theorem dX2_peg_0 : decode cX2_peg 0 = .ok (.aload_n 0, 1) := by decide +kernel
theorem dX2_peg_1 : decode cX2_peg 1 = .ok (.iload_n 1, 1) := by decide +kernel
theorem dX2_peg_2 : decode cX2_peg 2 = .ok (.invokevirtual 108, 3) := by decide +kernel
theorem dX2_peg_5 : decode cX2_peg 5 = .ok (.astore 4, 2) := by decide +kernel
theorem dX2_peg_7 : decode cX2_peg 7 = .ok (.aload_n 0, 1) := by decide +kernel
theorem dX2_peg_8 : decode cX2_peg 8 = .ok (.iload_n 2, 1) := by decide +kernel
theorem dX2_peg_9 : decode cX2_peg 9 = .ok (.invokevirtual 23, 3) := by decide +kernel
theorem dX2_peg_12 : decode cX2_peg 12 = .ok (.astore 5, 2) := by decide +kernel
theorem dX2_peg_14 : decode cX2_peg 14 = .ok (.aload 4, 2) := by decide +kernel
theorem dX2_peg_16 : decode cX2_peg 16 = .ok (.ifnull 8, 3) := by decide +kernel
theorem dX2_peg_19 : decode cX2_peg 19 = .ok (.aload 5, 2) := by decide +kernel
theorem dX2_peg_21 : decode cX2_peg 21 = .ok (.ifnonnull 5, 3) := by decide +kernel
theorem dX2_peg_24 : decode cX2_peg 24 = .ok (.iconst (-1), 1) := by decide +kernel
theorem dX2_peg_25 : decode cX2_peg 25 = .ok (.ireturn, 1) := by decide +kernel
theorem dX2_peg_26 : decode cX2_peg 26 = .ok (.aload 5, 2) := by decide +kernel
theorem dX2_peg_28 : decode cX2_peg 28 = .ok (.iload_n 3, 1) := by decide +kernel
theorem dX2_peg_29 : decode cX2_peg 29 = .ok (.invokevirtual 69, 3) := by decide +kernel
theorem dX2_peg_32 : decode cX2_peg 32 = .ok (.ifCond .ne 10, 3) := by decide +kernel
theorem dX2_peg_35 : decode cX2_peg 35 = .ok (.aload_n 0, 1) := by decide +kernel
theorem dX2_peg_36 : decode cX2_peg 36 = .ok (.bipush (-5), 2) := by decide +kernel
theorem dX2_peg_38 : decode cX2_peg 38 = .ok (.invokevirtual 62, 3) := by decide +kernel
theorem dX2_peg_41 : decode cX2_peg 41 = .ok (.ireturn, 1) := by decide +kernel
theorem dX2_peg_42 : decode cX2_peg 42 = .ok (.aload 4, 2) := by decide +kernel
theorem dX2_peg_44 : decode cX2_peg 44 = .ok (.aload 5, 2) := by decide +kernel
theorem dX2_peg_46 : decode cX2_peg 46 = .ok (.iload_n 3, 1) := by decide +kernel
theorem dX2_peg_47 : decode cX2_peg 47 = .ok (.invokevirtual 112, 3) := by decide +kernel
theorem dX2_peg_50 : decode cX2_peg 50 = .ok (.iload_n 3, 1) := by decide +kernel
theorem dX2_peg_51 : decode cX2_peg 51 = .ok (.ireturn, 1) := by decide +kernel
set_option maxRecDepth 20000 in
theorem ggX2_next_X2_goOver : GoodIn wsX2_next wsX2_goOver := goodIn_r _ [5, 6, 7, 8, 4, 9, 10, 11, 12, 13, 14, 15, 16, 17, 18, 19, 20, 21, 22, 23, 24, 25, 26, 27, 28, 29, 30, 31, 32, 33, 34, 35, 36, 37, 38, 39, 40, 41, 42, 43, 44, 45, 46, 47, 48, 49, 50, 51, 52, 53] (by decide +kernel) (by decide +kernel)
set_option maxRecDepth 20000 in
theorem gX2_next_X2_goOver : GoodIn wsX2_next (wsV RX2 116 RX2 yX2_goOver wsX2_goOver) := goodIn_app (goodIn_of _ (by decide +kernel)) ggX2_next_X2_goOver
theorem dX2_next_0 : decode cX2_next 0 = .ok (.aload_n 0, 1) := by decide +kernel
theorem dX2_next_1 : decode cX2_next 1 = .ok (.iload_n 1, 1) := by decide +kernel
theorem dX2_next_2 : decode cX2_next 2 = .ok (.iconst 1, 1) := by decide +kernel
theorem dX2_next_3 : decode cX2_next 3 = .ok (.invokevirtual 116, 3) := by decide +kernel
theorem dX2_next_6 : decode cX2_next 6 = .ok (.ireturn, 1) := by decide +kernel
set_option maxRecDepth 20000 in
theorem ggX2_previous_X2_goOver : GoodIn wsX2_previous wsX2_goOver := goodIn_r _ [5, 6, 7, 8, 4, 9, 10, 11, 12, 13, 14, 15, 16, 17, 18, 19, 20, 21, 22, 23, 24, 25, 26, 27, 28, 29, 30, 31, 32, 33, 34, 35, 36, 37, 38, 39, 40, 41, 42, 43, 44, 45, 46, 47, 48, 49, 50, 51, 52, 53] (by decide +kernel) (by decide +kernel)
set_option maxRecDepth 20000 in
theorem gX2_previous_X2_goOver : GoodIn wsX2_previous (wsV RX2 116 RX2 yX2_goOver wsX2_goOver) := goodIn_app (goodIn_of _ (by decide +kernel)) ggX2_previous_X2_goOver
theorem dX2_previous_0 : decode cX2_previous 0 = .ok (.aload_n 0, 1) := by decide +kernel
theorem dX2_previous_1 : decode cX2_previous 1 = .ok (.iload_n 1, 1) := by decide +kernel
theorem dX2_previous_2 : decode cX2_previous 2 = .ok (.iconst 0, 1) := by decide +kernel
theorem dX2_previous_3 : decode cX2_previous 3 = .ok (.invokevirtual 116, 3) := by decide +kernel
theorem dX2_previous_6 : decode cX2_previous 6 = .ok (.ireturn, 1) := by decide +kernel
set_option maxRecDepth 20000 in
theorem ggX2_side_X2_pegOf : GoodIn wsX2_side wsX2_pegOf := goodIn_r _ [5, 6, 19, 20, 21, 22, 23, 24, 25] (by decide +kernel) (by decide +kernel)
set_option maxRecDepth 20000 in
theorem gX2_side_X2_pegOf : GoodIn wsX2_side (wsV RX2 108 RX2 yX2_pegOf wsX2_pegOf) := goodIn_app (goodIn_of _ (by decide +kernel)) ggX2_side_X2_pegOf
set_option maxRecDepth 20000 in
theorem ggX2_side_X2_oneIf : GoodIn wsX2_side wsX2_oneIf := goodIn_r _ [9] (by decide +kernel) (by decide +kernel)
set_option maxRecDepth 20000 in
theorem gX2_side_X2_oneIf : GoodIn wsX2_side (va_wsS RX2 76 yX2_oneIf wsX2_oneIf) := goodIn_app (goodIn_of _ (by decide +kernel)) ggX2_side_X2_oneIf
theorem dX2_side_0 : decode cX2_side 0 = .ok (.aload_n 0, 1) := by decide +kernel
theorem dX2_side_1 : decode cX2_side 1 = .ok (.iload_n 1, 1) := by decide +kernel
theorem dX2_side_2 : decode cX2_side 2 = .ok (.invokevirtual 108, 3) := by decide +kernel
theorem dX2_side_5 : decode cX2_side 5 = .ok (.astore_n 3, 1) := by decide +kernel
theorem dX2_side_6 : decode cX2_side 6 = .ok (.aload_n 3, 1) := by decide +kernel
theorem dX2_side_7 : decode cX2_side 7 = .ok (.ifnull 12, 3) := by decide +kernel
theorem dX2_side_10 : decode cX2_side 10 = .ok (.iload_n 2, 1) := by decide +kernel
theorem dX2_side_11 : decode cX2_side 11 = .ok (.ifCond .lt 8, 3) := by decide +kernel
theorem dX2_side_14 : decode cX2_side 14 = .ok (.iload_n 2, 1) := by decide +kernel
theorem dX2_side_15 : decode cX2_side 15 = .ok (.iconst 3, 1) := by decide +kernel
theorem dX2_side_16 : decode cX2_side 16 = .ok (.if_icmp .le 5, 3) := by decide +kernel
theorem dX2_side_19 : decode cX2_side 19 = .ok (.iconst (-1), 1) := by decide +kernel
theorem dX2_side_20 : decode cX2_side 20 = .ok (.ireturn, 1) := by decide +kernel
theorem dX2_side_21 : decode cX2_side 21 = .ok (.aload_n 3, 1) := by decide +kernel
theorem dX2_side_22 : decode cX2_side 22 = .ok (.getfield 119, 3) := by decide +kernel
theorem dX2_side_25 : decode cX2_side 25 = .ok (.astore 4, 2) := by decide +kernel
theorem dX2_side_27 : decode cX2_side 27 = .ok (.aload 4, 2) := by decide +kernel
theorem dX2_side_29 : decode cX2_side 29 = .ok (.ifnonnull 6, 3) := by decide +kernel
theorem dX2_side_32 : decode cX2_side 32 = .ok (.bipush (-2), 2) := by decide +kernel
theorem dX2_side_34 : decode cX2_side 34 = .ok (.ireturn, 1) := by decide +kernel
theorem dX2_side_35 : decode cX2_side 35 = .ok (.aload_n 3, 1) := by decide +kernel
theorem dX2_side_36 : decode cX2_side 36 = .ok (.getfield 123, 3) := by decide +kernel
theorem dX2_side_39 : decode cX2_side 39 = .ok (.aload 4, 2) := by decide +kernel
theorem dX2_side_41 : decode cX2_side 41 = .ok (.getfield 126, 3) := by decide +kernel
theorem dX2_side_44 : decode cX2_side 44 = .ok (.if_icmp .eq 6, 3) := by decide +kernel
theorem dX2_side_47 : decode cX2_side 47 = .ok (.bipush (-4), 2) := by decide +kernel
theorem dX2_side_49 : decode cX2_side 49 = .ok (.ireturn, 1) := by decide +kernel
theorem dX2_side_50 : decode cX2_side 50 = .ok (.iload_n 2, 1) := by decide +kernel
theorem dX2_side_51 : decode cX2_side 51 = .ok (.lookupswitch 62 #[(0, 25), (1, 46)], 25) := by decide +kernel
theorem dX2_side_76 : decode cX2_side 76 = .ok (.aload_n 3, 1) := by decide +kernel
theorem dX2_side_77 : decode cX2_side 77 = .ok (.getfield 129, 3) := by decide +kernel
theorem dX2_side_80 : decode cX2_side 80 = .ok (.aload 4, 2) := by decide +kernel
theorem dX2_side_82 : decode cX2_side 82 = .ok (.getfield 34, 3) := by decide +kernel
theorem dX2_side_85 : decode cX2_side 85 = .ok (.if_icmp .ge 7, 3) := by decide +kernel
theorem dX2_side_88 : decode cX2_side 88 = .ok (.iconst 1, 1) := by decide +kernel
theorem dX2_side_89 : decode cX2_side 89 = .ok (.goto 4, 3) := by decide +kernel
theorem dX2_side_92 : decode cX2_side 92 = .ok (.iconst 0, 1) := by decide +kernel
theorem dX2_side_93 : decode cX2_side 93 = .ok (.invokestatic 76, 3) := by decide +kernel
theorem dX2_side_96 : decode cX2_side 96 = .ok (.ireturn, 1) := by decide +kernel
theorem dX2_side_97 : decode cX2_side 97 = .ok (.aload_n 3, 1) := by decide +kernel
theorem dX2_side_98 : decode cX2_side 98 = .ok (.getfield 129, 3) := by decide +kernel
theorem dX2_side_101 : decode cX2_side 101 = .ok (.ifCond .le 7, 3) := by decide +kernel
theorem dX2_side_104 : decode cX2_side 104 = .ok (.iconst 1, 1) := by decide +kernel
theorem dX2_side_105 : decode cX2_side 105 = .ok (.goto 4, 3) := by decide +kernel
theorem dX2_side_108 : decode cX2_side 108 = .ok (.iconst 0, 1) := by decide +kernel
theorem dX2_side_109 : decode cX2_side 109 = .ok (.invokestatic 76, 3) := by decide +kernel
theorem dX2_side_112 : decode cX2_side 112 = .ok (.ireturn, 1) := by decide +kernel
theorem dX2_side_113 : decode cX2_side 113 = .ok (.aload_n 3, 1) := by decide +kernel
theorem dX2_side_114 : decode cX2_side 114 = .ok (.getfield 129, 3) := by decide +kernel
theorem dX2_side_117 : decode cX2_side 117 = .ok (.ireturn, 1) := by decide +kernel
set_option maxRecDepth 20000 in
theorem ggX2_change_X2_pegOf : GoodIn wsX2_change wsX2_pegOf := goodIn_r _ [5, 6, 56, 57, 58, 59, 60, 61, 62] (by decide +kernel) (by decide +kernel)
set_option maxRecDepth 20000 in
theorem gX2_change_X2_pegOf : GoodIn wsX2_change (wsV RX2 108 RX2 yX2_pegOf wsX2_pegOf) := goodIn_app (goodIn_of _ (by decide +kernel)) ggX2_change_X2_pegOf
set_option maxRecDepth 20000 in
theorem ggX2_change_X2_isName : GoodIn wsX2_change wsX2_isName := goodIn_r _ [9] (by decide +kernel) (by decide +kernel)
set_option maxRecDepth 20000 in
theorem gX2_change_X2_isName : GoodIn wsX2_change (va_wsS RX2 27 yX2_isName wsX2_isName) := goodIn_app (goodIn_of _ (by decide +kernel)) ggX2_change_X2_isName
set_option maxRecDepth 20000 in
theorem ggX2_change_X2_handFault : GoodIn wsX2_change wsX2_handFault := goodIn_r _ [13, 14, 15, 16, 4, 17, 18, 19, 20, 21, 22, 23, 24, 25, 26, 27, 28, 29, 30, 31, 32, 50, 51, 52, 53, 54, 55, 63, 64, 65, 56, 57, 58, 59, 60, 61, 62] (by decide +kernel) (by decide +kernel)
set_option maxRecDepth 20000 in
theorem gX2_change_X2_handFault : GoodIn wsX2_change (wsV RX2 132 RX2 yX2_handFault wsX2_handFault) := goodIn_app (goodIn_of _ (by decide +kernel)) ggX2_change_X2_handFault
set_option maxRecDepth 20000 in
theorem ggX2_change_X2_newThing : GoodIn wsX2_change wsX2_newThing := goodIn_r _ [36, 37, 56, 57, 58, 59, 60, 61, 62] (by decide +kernel) (by decide +kernel)
set_option maxRecDepth 20000 in
theorem gX2_change_X2_newThing : GoodIn wsX2_change (wsV RX2 38 RX2 yX2_newThing wsX2_newThing) := goodIn_app (goodIn_of _ (by decide +kernel)) ggX2_change_X2_newThing
set_option maxRecDepth 20000 in
theorem ggX2_change_X0_hold : GoodIn wsX2_change wsX0_hold := goodIn_r _ [42, 43, 44, 45, 50, 51, 52, 53, 54, 55] (by decide +kernel) (by decide +kernel)
set_option maxRecDepth 20000 in
theorem gX2_change_X0_hold : GoodIn wsX2_change (wsV RX2 139 RX0 yX0_hold wsX0_hold) := goodIn_app (goodIn_of _ (by decide +kernel)) ggX2_change_X0_hold
set_option maxRecDepth 20000 in
theorem ggX2_change_X1_layAt : GoodIn wsX2_change wsX1_layAt := goodIn_r _ [49, 32, 63, 64, 65] (by decide +kernel) (by decide +kernel)
set_option maxRecDepth 20000 in
theorem gX2_change_X1_layAt : GoodIn wsX2_change (wsV RX2 65 RX1 yX1_layAt wsX1_layAt) := goodIn_app (goodIn_of _ (by decide +kernel)) ggX2_change_X1_layAt
theorem dX2_change_0 : decode cX2_change 0 = .ok (.aload_n 0, 1) := by decide +kernel
theorem dX2_change_1 : decode cX2_change 1 = .ok (.iload_n 1, 1) := by decide +kernel
theorem dX2_change_2 : decode cX2_change 2 = .ok (.invokevirtual 108, 3) := by decide +kernel
theorem dX2_change_5 : decode cX2_change 5 = .ok (.astore_n 3, 1) := by decide +kernel
theorem dX2_change_6 : decode cX2_change 6 = .ok (.aload_n 3, 1) := by decide +kernel
theorem dX2_change_7 : decode cX2_change 7 = .ok (.ifnull 10, 3) := by decide +kernel
theorem dX2_change_10 : decode cX2_change 10 = .ok (.iload_n 2, 1) := by decide +kernel
theorem dX2_change_11 : decode cX2_change 11 = .ok (.invokestatic 27, 3) := by decide +kernel
theorem dX2_change_14 : decode cX2_change 14 = .ok (.ifCond .ne 5, 3) := by decide +kernel
theorem dX2_change_17 : decode cX2_change 17 = .ok (.iconst (-1), 1) := by decide +kernel
theorem dX2_change_18 : decode cX2_change 18 = .ok (.ireturn, 1) := by decide +kernel
theorem dX2_change_19 : decode cX2_change 19 = .ok (.aload_n 3, 1) := by decide +kernel
theorem dX2_change_20 : decode cX2_change 20 = .ok (.getfield 119, 3) := by decide +kernel
theorem dX2_change_23 : decode cX2_change 23 = .ok (.astore 4, 2) := by decide +kernel
theorem dX2_change_25 : decode cX2_change 25 = .ok (.aload 4, 2) := by decide +kernel
theorem dX2_change_27 : decode cX2_change 27 = .ok (.ifnonnull 6, 3) := by decide +kernel
theorem dX2_change_30 : decode cX2_change 30 = .ok (.bipush (-2), 2) := by decide +kernel
theorem dX2_change_32 : decode cX2_change 32 = .ok (.ireturn, 1) := by decide +kernel
theorem dX2_change_33 : decode cX2_change 33 = .ok (.aload_n 0, 1) := by decide +kernel
theorem dX2_change_34 : decode cX2_change 34 = .ok (.aload_n 3, 1) := by decide +kernel
theorem dX2_change_35 : decode cX2_change 35 = .ok (.aload 4, 2) := by decide +kernel
theorem dX2_change_37 : decode cX2_change 37 = .ok (.invokevirtual 132, 3) := by decide +kernel
theorem dX2_change_40 : decode cX2_change 40 = .ok (.istore 5, 2) := by decide +kernel
theorem dX2_change_42 : decode cX2_change 42 = .ok (.iload 5, 2) := by decide +kernel
theorem dX2_change_44 : decode cX2_change 44 = .ok (.ifCond .eq 6, 3) := by decide +kernel
theorem dX2_change_47 : decode cX2_change 47 = .ok (.iload 5, 2) := by decide +kernel
theorem dX2_change_49 : decode cX2_change 49 = .ok (.ireturn, 1) := by decide +kernel
theorem dX2_change_50 : decode cX2_change 50 = .ok (.aload_n 0, 1) := by decide +kernel
theorem dX2_change_51 : decode cX2_change 51 = .ok (.iload_n 2, 1) := by decide +kernel
theorem dX2_change_52 : decode cX2_change 52 = .ok (.invokevirtual 38, 3) := by decide +kernel
theorem dX2_change_55 : decode cX2_change 55 = .ok (.istore 6, 2) := by decide +kernel
theorem dX2_change_57 : decode cX2_change 57 = .ok (.aload_n 3, 1) := by decide +kernel
theorem dX2_change_58 : decode cX2_change 58 = .ok (.aload_n 3, 1) := by decide +kernel
theorem dX2_change_59 : decode cX2_change 59 = .ok (.getfield 136, 3) := by decide +kernel
theorem dX2_change_62 : decode cX2_change 62 = .ok (.iload 6, 2) := by decide +kernel
theorem dX2_change_64 : decode cX2_change 64 = .ok (.invokevirtual 139, 3) := by decide +kernel
theorem dX2_change_67 : decode cX2_change 67 = .ok (.pop, 1) := by decide +kernel
theorem dX2_change_68 : decode cX2_change 68 = .ok (.aload 4, 2) := by decide +kernel
theorem dX2_change_70 : decode cX2_change 70 = .ok (.aload_n 3, 1) := by decide +kernel
theorem dX2_change_71 : decode cX2_change 71 = .ok (.getfield 136, 3) := by decide +kernel
theorem dX2_change_74 : decode cX2_change 74 = .ok (.iload 6, 2) := by decide +kernel
theorem dX2_change_76 : decode cX2_change 76 = .ok (.invokevirtual 65, 3) := by decide +kernel
theorem dX2_change_79 : decode cX2_change 79 = .ok (.ireturn, 1) := by decide +kernel
set_option maxRecDepth 20000 in
theorem ggX2_add_X2_pegOf : GoodIn wsX2_add wsX2_pegOf := goodIn_r _ [5, 6, 58, 59, 60, 61, 62, 63, 64] (by decide +kernel) (by decide +kernel)
set_option maxRecDepth 20000 in
theorem gX2_add_X2_pegOf : GoodIn wsX2_add (wsV RX2 108 RX2 yX2_pegOf wsX2_pegOf) := goodIn_app (goodIn_of _ (by decide +kernel)) ggX2_add_X2_pegOf
set_option maxRecDepth 20000 in
theorem ggX2_add_X2_isName : GoodIn wsX2_add wsX2_isName := goodIn_r _ [9] (by decide +kernel) (by decide +kernel)
set_option maxRecDepth 20000 in
theorem gX2_add_X2_isName : GoodIn wsX2_add (va_wsS RX2 27 yX2_isName wsX2_isName) := goodIn_app (goodIn_of _ (by decide +kernel)) ggX2_add_X2_isName
set_option maxRecDepth 20000 in
theorem ggX2_add_X1_hasRoomFor : GoodIn wsX2_add wsX1_hasRoomFor := goodIn_r _ [14, 15, 55, 56, 57] (by decide +kernel) (by decide +kernel)
set_option maxRecDepth 20000 in
theorem gX2_add_X1_hasRoomFor : GoodIn wsX2_add (wsV RX2 31 RX1 yX1_hasRoomFor wsX1_hasRoomFor) := goodIn_app (goodIn_of _ (by decide +kernel)) ggX2_add_X1_hasRoomFor
set_option maxRecDepth 20000 in
theorem ggX2_add_X2_refused : GoodIn wsX2_add wsX2_refused := goodIn_r _ [19, 20, 21, 22, 23, 58, 59, 60, 61, 62, 63, 64] (by decide +kernel) (by decide +kernel)
set_option maxRecDepth 20000 in
theorem gX2_add_X2_refused : GoodIn wsX2_add (wsV RX2 62 RX2 yX2_refused wsX2_refused) := goodIn_app (goodIn_of _ (by decide +kernel)) ggX2_add_X2_refused
set_option maxRecDepth 20000 in
theorem ggX2_add_X2_newThing : GoodIn wsX2_add wsX2_newThing := goodIn_r _ [27, 28, 58, 59, 60, 61, 62, 63, 64] (by decide +kernel) (by decide +kernel)
set_option maxRecDepth 20000 in
theorem gX2_add_X2_newThing : GoodIn wsX2_add (wsV RX2 38 RX2 yX2_newThing wsX2_newThing) := goodIn_app (goodIn_of _ (by decide +kernel)) ggX2_add_X2_newThing
set_option maxRecDepth 20000 in
theorem ggX2_add_X1_putAt : GoodIn wsX2_add wsX1_putAt := goodIn_r _ [32, 33, 34, 35, 36, 13, 37, 15, 38, 55, 56, 57] (by decide +kernel) (by decide +kernel)
set_option maxRecDepth 20000 in
theorem gX2_add_X1_putAt : GoodIn wsX2_add (wsV RX2 42 RX1 yX1_putAt wsX1_putAt) := goodIn_app (goodIn_of _ (by decide +kernel)) ggX2_add_X1_putAt
set_option maxRecDepth 20000 in
theorem ggX2_add_X0_standIn : GoodIn wsX2_add wsX0_standIn := goodIn_r _ [43, 44, 45, 46, 47, 48, 49, 50, 51, 52, 53, 54, 55, 56, 57] (by decide +kernel) (by decide +kernel)
set_option maxRecDepth 20000 in
theorem gX2_add_X0_standIn : GoodIn wsX2_add (wsV RX2 112 RX0 yX0_standIn wsX0_standIn) := goodIn_app (goodIn_of _ (by decide +kernel)) ggX2_add_X0_standIn
theorem dX2_add_0 : decode cX2_add 0 = .ok (.aload_n 0, 1) := by decide +kernel
theorem dX2_add_1 : decode cX2_add 1 = .ok (.iload_n 1, 1) := by decide +kernel
theorem dX2_add_2 : decode cX2_add 2 = .ok (.invokevirtual 108, 3) := by decide +kernel
theorem dX2_add_5 : decode cX2_add 5 = .ok (.astore_n 3, 1) := by decide +kernel
theorem dX2_add_6 : decode cX2_add 6 = .ok (.aload_n 3, 1) := by decide +kernel
theorem dX2_add_7 : decode cX2_add 7 = .ok (.ifnull 10, 3) := by decide +kernel
theorem dX2_add_10 : decode cX2_add 10 = .ok (.iload_n 2, 1) := by decide +kernel
theorem dX2_add_11 : decode cX2_add 11 = .ok (.invokestatic 27, 3) := by decide +kernel
theorem dX2_add_14 : decode cX2_add 14 = .ok (.ifCond .ne 5, 3) := by decide +kernel
theorem dX2_add_17 : decode cX2_add 17 = .ok (.iconst (-1), 1) := by decide +kernel
theorem dX2_add_18 : decode cX2_add 18 = .ok (.ireturn, 1) := by decide +kernel
theorem dX2_add_19 : decode cX2_add 19 = .ok (.aload_n 3, 1) := by decide +kernel
theorem dX2_add_20 : decode cX2_add 20 = .ok (.getfield 119, 3) := by decide +kernel
theorem dX2_add_23 : decode cX2_add 23 = .ok (.astore 4, 2) := by decide +kernel
theorem dX2_add_25 : decode cX2_add 25 = .ok (.aload 4, 2) := by decide +kernel
theorem dX2_add_27 : decode cX2_add 27 = .ok (.ifnonnull 6, 3) := by decide +kernel
theorem dX2_add_30 : decode cX2_add 30 = .ok (.bipush (-2), 2) := by decide +kernel
theorem dX2_add_32 : decode cX2_add 32 = .ok (.ireturn, 1) := by decide +kernel
theorem dX2_add_33 : decode cX2_add 33 = .ok (.aload 4, 2) := by decide +kernel
theorem dX2_add_35 : decode cX2_add 35 = .ok (.iconst 1, 1) := by decide +kernel
theorem dX2_add_36 : decode cX2_add 36 = .ok (.invokevirtual 31, 3) := by decide +kernel
theorem dX2_add_39 : decode cX2_add 39 = .ok (.ifCond .ne 6, 3) := by decide +kernel
theorem dX2_add_42 : decode cX2_add 42 = .ok (.bipush (-3), 2) := by decide +kernel
theorem dX2_add_44 : decode cX2_add 44 = .ok (.ireturn, 1) := by decide +kernel
theorem dX2_add_45 : decode cX2_add 45 = .ok (.aload_n 3, 1) := by decide +kernel
theorem dX2_add_46 : decode cX2_add 46 = .ok (.getfield 123, 3) := by decide +kernel
theorem dX2_add_49 : decode cX2_add 49 = .ok (.aload 4, 2) := by decide +kernel
theorem dX2_add_51 : decode cX2_add 51 = .ok (.getfield 126, 3) := by decide +kernel
theorem dX2_add_54 : decode cX2_add 54 = .ok (.if_icmp .eq 10, 3) := by decide +kernel
theorem dX2_add_57 : decode cX2_add 57 = .ok (.aload_n 0, 1) := by decide +kernel
theorem dX2_add_58 : decode cX2_add 58 = .ok (.bipush (-4), 2) := by decide +kernel
theorem dX2_add_60 : decode cX2_add 60 = .ok (.invokevirtual 62, 3) := by decide +kernel
theorem dX2_add_63 : decode cX2_add 63 = .ok (.ireturn, 1) := by decide +kernel
theorem dX2_add_64 : decode cX2_add 64 = .ok (.aload 4, 2) := by decide +kernel
theorem dX2_add_66 : decode cX2_add 66 = .ok (.aload_n 3, 1) := by decide +kernel
theorem dX2_add_67 : decode cX2_add 67 = .ok (.getfield 129, 3) := by decide +kernel
theorem dX2_add_70 : decode cX2_add 70 = .ok (.aload_n 0, 1) := by decide +kernel
theorem dX2_add_71 : decode cX2_add 71 = .ok (.iload_n 2, 1) := by decide +kernel
theorem dX2_add_72 : decode cX2_add 72 = .ok (.invokevirtual 38, 3) := by decide +kernel
theorem dX2_add_75 : decode cX2_add 75 = .ok (.invokevirtual 42, 3) := by decide +kernel
theorem dX2_add_78 : decode cX2_add 78 = .ok (.aload_n 3, 1) := by decide +kernel
theorem dX2_add_79 : decode cX2_add 79 = .ok (.aload 4, 2) := by decide +kernel
theorem dX2_add_81 : decode cX2_add 81 = .ok (.aload_n 3, 1) := by decide +kernel
theorem dX2_add_82 : decode cX2_add 82 = .ok (.getfield 129, 3) := by decide +kernel
theorem dX2_add_85 : decode cX2_add 85 = .ok (.iconst 1, 1) := by decide +kernel
theorem dX2_add_86 : decode cX2_add 86 = .ok (.iadd, 1) := by decide +kernel
theorem dX2_add_87 : decode cX2_add 87 = .ok (.invokevirtual 112, 3) := by decide +kernel
theorem dX2_add_90 : decode cX2_add 90 = .ok (.aload 4, 2) := by decide +kernel
theorem dX2_add_92 : decode cX2_add 92 = .ok (.getfield 34, 3) := by decide +kernel
theorem dX2_add_95 : decode cX2_add 95 = .ok (.ireturn, 1) := by decide +kernel
set_option maxRecDepth 20000 in
theorem ggX2_remove_X2_pegOf : GoodIn wsX2_remove wsX2_pegOf := goodIn_r _ [5, 6, 55, 56, 57, 58, 59, 60, 61] (by decide +kernel) (by decide +kernel)
set_option maxRecDepth 20000 in
theorem gX2_remove_X2_pegOf : GoodIn wsX2_remove (wsV RX2 108 RX2 yX2_pegOf wsX2_pegOf) := goodIn_app (goodIn_of _ (by decide +kernel)) ggX2_remove_X2_pegOf
set_option maxRecDepth 20000 in
theorem ggX2_remove_X2_handFault : GoodIn wsX2_remove wsX2_handFault := goodIn_r _ [10, 11, 12, 13, 4, 14, 15, 16, 17, 18, 19, 20, 21, 22, 23, 24, 25, 26, 27, 28, 29, 49, 50, 51, 52, 53, 54, 62, 63, 64, 55, 56, 57, 58, 59, 60, 61] (by decide +kernel) (by decide +kernel)
set_option maxRecDepth 20000 in
theorem gX2_remove_X2_handFault : GoodIn wsX2_remove (wsV RX2 132 RX2 yX2_handFault wsX2_handFault) := goodIn_app (goodIn_of _ (by decide +kernel)) ggX2_remove_X2_handFault
set_option maxRecDepth 20000 in
theorem ggX2_remove_X1_takeAt : GoodIn wsX2_remove wsX1_takeAt := goodIn_r _ [33, 29, 24, 34, 35, 36, 22, 37, 38, 62, 63, 64] (by decide +kernel) (by decide +kernel)
set_option maxRecDepth 20000 in
theorem gX2_remove_X1_takeAt : GoodIn wsX2_remove (wsV RX2 56 RX1 yX1_takeAt wsX1_takeAt) := goodIn_app (goodIn_of _ (by decide +kernel)) ggX2_remove_X1_takeAt
set_option maxRecDepth 20000 in
theorem ggX2_remove_X0_standIn : GoodIn wsX2_remove wsX0_standIn := goodIn_r _ [43, 44, 45, 46, 47, 48, 49, 50, 51, 52, 53, 54, 62, 63, 64] (by decide +kernel) (by decide +kernel)
set_option maxRecDepth 20000 in
theorem gX2_remove_X0_standIn : GoodIn wsX2_remove (wsV RX2 112 RX0 yX0_standIn wsX0_standIn) := goodIn_app (goodIn_of _ (by decide +kernel)) ggX2_remove_X0_standIn
theorem dX2_remove_0 : decode cX2_remove 0 = .ok (.aload_n 0, 1) := by decide +kernel
theorem dX2_remove_1 : decode cX2_remove 1 = .ok (.iload_n 1, 1) := by decide +kernel
theorem dX2_remove_2 : decode cX2_remove 2 = .ok (.invokevirtual 108, 3) := by decide +kernel
theorem dX2_remove_5 : decode cX2_remove 5 = .ok (.astore_n 2, 1) := by decide +kernel
theorem dX2_remove_6 : decode cX2_remove 6 = .ok (.aload_n 2, 1) := by decide +kernel
theorem dX2_remove_7 : decode cX2_remove 7 = .ok (.ifnonnull 5, 3) := by decide +kernel
theorem dX2_remove_10 : decode cX2_remove 10 = .ok (.iconst (-1), 1) := by decide +kernel
theorem dX2_remove_11 : decode cX2_remove 11 = .ok (.ireturn, 1) := by decide +kernel
theorem dX2_remove_12 : decode cX2_remove 12 = .ok (.aload_n 2, 1) := by decide +kernel
theorem dX2_remove_13 : decode cX2_remove 13 = .ok (.getfield 119, 3) := by decide +kernel
theorem dX2_remove_16 : decode cX2_remove 16 = .ok (.astore_n 3, 1) := by decide +kernel
theorem dX2_remove_17 : decode cX2_remove 17 = .ok (.aload_n 3, 1) := by decide +kernel
theorem dX2_remove_18 : decode cX2_remove 18 = .ok (.ifnonnull 6, 3) := by decide +kernel
theorem dX2_remove_21 : decode cX2_remove 21 = .ok (.bipush (-2), 2) := by decide +kernel
theorem dX2_remove_23 : decode cX2_remove 23 = .ok (.ireturn, 1) := by decide +kernel
theorem dX2_remove_24 : decode cX2_remove 24 = .ok (.aload_n 0, 1) := by decide +kernel
theorem dX2_remove_25 : decode cX2_remove 25 = .ok (.aload_n 2, 1) := by decide +kernel
theorem dX2_remove_26 : decode cX2_remove 26 = .ok (.aload_n 3, 1) := by decide +kernel
theorem dX2_remove_27 : decode cX2_remove 27 = .ok (.invokevirtual 132, 3) := by decide +kernel
theorem dX2_remove_30 : decode cX2_remove 30 = .ok (.istore 4, 2) := by decide +kernel
theorem dX2_remove_32 : decode cX2_remove 32 = .ok (.iload 4, 2) := by decide +kernel
theorem dX2_remove_34 : decode cX2_remove 34 = .ok (.ifCond .eq 6, 3) := by decide +kernel
theorem dX2_remove_37 : decode cX2_remove 37 = .ok (.iload 4, 2) := by decide +kernel
theorem dX2_remove_39 : decode cX2_remove 39 = .ok (.ireturn, 1) := by decide +kernel
theorem dX2_remove_40 : decode cX2_remove 40 = .ok (.aload_n 3, 1) := by decide +kernel
theorem dX2_remove_41 : decode cX2_remove 41 = .ok (.aload_n 2, 1) := by decide +kernel
theorem dX2_remove_42 : decode cX2_remove 42 = .ok (.getfield 136, 3) := by decide +kernel
theorem dX2_remove_45 : decode cX2_remove 45 = .ok (.invokevirtual 56, 3) := by decide +kernel
theorem dX2_remove_48 : decode cX2_remove 48 = .ok (.istore 5, 2) := by decide +kernel
theorem dX2_remove_50 : decode cX2_remove 50 = .ok (.aload_n 2, 1) := by decide +kernel
theorem dX2_remove_51 : decode cX2_remove 51 = .ok (.aload_n 3, 1) := by decide +kernel
theorem dX2_remove_52 : decode cX2_remove 52 = .ok (.aload_n 2, 1) := by decide +kernel
theorem dX2_remove_53 : decode cX2_remove 53 = .ok (.getfield 136, 3) := by decide +kernel
theorem dX2_remove_56 : decode cX2_remove 56 = .ok (.invokevirtual 112, 3) := by decide +kernel
theorem dX2_remove_59 : decode cX2_remove 59 = .ok (.iload 5, 2) := by decide +kernel
theorem dX2_remove_61 : decode cX2_remove 61 = .ok (.ireturn, 1) := by decide +kernel
set_option maxRecDepth 20000 in
theorem ggX2_old_X2_pegOf : GoodIn wsX2_old wsX2_pegOf := goodIn_r _ [5, 6, 23, 24, 25, 26, 27, 28, 29] (by decide +kernel) (by decide +kernel)
set_option maxRecDepth 20000 in
theorem gX2_old_X2_pegOf : GoodIn wsX2_old (wsV RX2 108 RX2 yX2_pegOf wsX2_pegOf) := goodIn_app (goodIn_of _ (by decide +kernel)) ggX2_old_X2_pegOf
set_option maxRecDepth 20000 in
theorem ggX2_old_X0_isOld : GoodIn wsX2_old wsX0_isOld := goodIn_r _ [11, 12, 13, 17, 18, 19, 20, 21, 22, 30, 31, 32] (by decide +kernel) (by decide +kernel)
set_option maxRecDepth 20000 in
theorem gX2_old_X0_isOld : GoodIn wsX2_old (wsV RX2 142 RX0 yX0_isOld wsX0_isOld) := goodIn_app (goodIn_of _ (by decide +kernel)) ggX2_old_X0_isOld
set_option maxRecDepth 20000 in
theorem ggX2_old_X2_oneIf : GoodIn wsX2_old wsX2_oneIf := goodIn_r _ [16] (by decide +kernel) (by decide +kernel)
set_option maxRecDepth 20000 in
theorem gX2_old_X2_oneIf : GoodIn wsX2_old (va_wsS RX2 76 yX2_oneIf wsX2_oneIf) := goodIn_app (goodIn_of _ (by decide +kernel)) ggX2_old_X2_oneIf
theorem dX2_old_0 : decode cX2_old 0 = .ok (.aload_n 0, 1) := by decide +kernel
theorem dX2_old_1 : decode cX2_old 1 = .ok (.iload_n 1, 1) := by decide +kernel
theorem dX2_old_2 : decode cX2_old 2 = .ok (.invokevirtual 108, 3) := by decide +kernel
theorem dX2_old_5 : decode cX2_old 5 = .ok (.astore_n 2, 1) := by decide +kernel
theorem dX2_old_6 : decode cX2_old 6 = .ok (.aload_n 2, 1) := by decide +kernel
theorem dX2_old_7 : decode cX2_old 7 = .ok (.ifnonnull 5, 3) := by decide +kernel
theorem dX2_old_10 : decode cX2_old 10 = .ok (.iconst (-1), 1) := by decide +kernel
theorem dX2_old_11 : decode cX2_old 11 = .ok (.ireturn, 1) := by decide +kernel
theorem dX2_old_12 : decode cX2_old 12 = .ok (.aload_n 2, 1) := by decide +kernel
theorem dX2_old_13 : decode cX2_old 13 = .ok (.getfield 119, 3) := by decide +kernel
theorem dX2_old_16 : decode cX2_old 16 = .ok (.ifnonnull 6, 3) := by decide +kernel
theorem dX2_old_19 : decode cX2_old 19 = .ok (.bipush (-2), 2) := by decide +kernel
theorem dX2_old_21 : decode cX2_old 21 = .ok (.ireturn, 1) := by decide +kernel
theorem dX2_old_22 : decode cX2_old 22 = .ok (.aload_n 2, 1) := by decide +kernel
theorem dX2_old_23 : decode cX2_old 23 = .ok (.invokevirtual 142, 3) := by decide +kernel
theorem dX2_old_26 : decode cX2_old 26 = .ok (.invokestatic 76, 3) := by decide +kernel
theorem dX2_old_29 : decode cX2_old 29 = .ok (.ireturn, 1) := by decide +kernel
set_option maxRecDepth 20000 in
theorem ggX2_count_X2_standingPegs : GoodIn wsX2_count wsX2_standingPegs := goodIn_r _ [10, 11, 23, 24, 25, 26, 27, 28, 29, 30, 31, 32, 33, 34, 35] (by decide +kernel) (by decide +kernel)
set_option maxRecDepth 20000 in
theorem gX2_count_X2_standingPegs : GoodIn wsX2_count (wsV RX2 161 RX2 yX2_standingPegs wsX2_standingPegs) := goodIn_app (goodIn_of _ (by decide +kernel)) ggX2_count_X2_standingPegs
set_option maxRecDepth 20000 in
theorem ggX2_count_X2_oldPegs : GoodIn wsX2_count wsX2_oldPegs := goodIn_r _ [15, 11, 16, 17, 18, 19, 20, 21, 22, 23, 24, 25, 26, 27, 28, 29, 30, 31, 32, 33, 34, 35, 36, 37, 38] (by decide +kernel) (by decide +kernel)
set_option maxRecDepth 20000 in
theorem gX2_count_X2_oldPegs : GoodIn wsX2_count (wsV RX2 164 RX2 yX2_oldPegs wsX2_oldPegs) := goodIn_app (goodIn_of _ (by decide +kernel)) ggX2_count_X2_oldPegs
theorem dX2_count_0 : decode cX2_count 0 = .ok (.iload_n 1, 1) := by decide +kernel
theorem dX2_count_1 : decode cX2_count 1 = .ok (.tableswitch 78 0 6 #[43, 48, 53, 58, 63, 68, 73], 43) := by decide +kernel
theorem dX2_count_44 : decode cX2_count 44 = .ok (.aload_n 0, 1) := by decide +kernel
theorem dX2_count_45 : decode cX2_count 45 = .ok (.getfield 146, 3) := by decide +kernel
theorem dX2_count_48 : decode cX2_count 48 = .ok (.ireturn, 1) := by decide +kernel
theorem dX2_count_49 : decode cX2_count 49 = .ok (.aload_n 0, 1) := by decide +kernel
theorem dX2_count_50 : decode cX2_count 50 = .ok (.getfield 149, 3) := by decide +kernel
theorem dX2_count_53 : decode cX2_count 53 = .ok (.ireturn, 1) := by decide +kernel
theorem dX2_count_54 : decode cX2_count 54 = .ok (.aload_n 0, 1) := by decide +kernel
theorem dX2_count_55 : decode cX2_count 55 = .ok (.getfield 152, 3) := by decide +kernel
theorem dX2_count_58 : decode cX2_count 58 = .ok (.ireturn, 1) := by decide +kernel
theorem dX2_count_59 : decode cX2_count 59 = .ok (.aload_n 0, 1) := by decide +kernel
theorem dX2_count_60 : decode cX2_count 60 = .ok (.getfield 155, 3) := by decide +kernel
theorem dX2_count_63 : decode cX2_count 63 = .ok (.ireturn, 1) := by decide +kernel
theorem dX2_count_64 : decode cX2_count 64 = .ok (.aload_n 0, 1) := by decide +kernel
theorem dX2_count_65 : decode cX2_count 65 = .ok (.getfield 158, 3) := by decide +kernel
theorem dX2_count_68 : decode cX2_count 68 = .ok (.ireturn, 1) := by decide +kernel
theorem dX2_count_69 : decode cX2_count 69 = .ok (.aload_n 0, 1) := by decide +kernel
theorem dX2_count_70 : decode cX2_count 70 = .ok (.invokevirtual 161, 3) := by decide +kernel
theorem dX2_count_73 : decode cX2_count 73 = .ok (.ireturn, 1) := by decide +kernel
theorem dX2_count_74 : decode cX2_count 74 = .ok (.aload_n 0, 1) := by decide +kernel
theorem dX2_count_75 : decode cX2_count 75 = .ok (.invokevirtual 164, 3) := by decide +kernel
theorem dX2_count_78 : decode cX2_count 78 = .ok (.ireturn, 1) := by decide +kernel
theorem dX2_count_79 : decode cX2_count 79 = .ok (.iconst (-1), 1) := by decide +kernel
theorem dX2_count_80 : decode cX2_count 80 = .ok (.ireturn, 1) := by decide +kernel
theorem dX2_rowOf_0 : decode cX2_rowOf 0 = .ok (.iload_n 1, 1) := by decide +kernel
theorem dX2_rowOf_1 : decode cX2_rowOf 1 = .ok (.ifCond .lt 21, 3) := by decide +kernel
theorem dX2_rowOf_4 : decode cX2_rowOf 4 = .ok (.iload_n 1, 1) := by decide +kernel
theorem dX2_rowOf_5 : decode cX2_rowOf 5 = .ok (.aload_n 0, 1) := by decide +kernel
theorem dX2_rowOf_6 : decode cX2_rowOf 6 = .ok (.getfield 11, 3) := by decide +kernel
theorem dX2_rowOf_9 : decode cX2_rowOf 9 = .ok (.arraylength, 1) := by decide +kernel
theorem dX2_rowOf_10 : decode cX2_rowOf 10 = .ok (.if_icmp .ge 12, 3) := by decide +kernel
theorem dX2_rowOf_13 : decode cX2_rowOf 13 = .ok (.aload_n 0, 1) := by decide +kernel
theorem dX2_rowOf_14 : decode cX2_rowOf 14 = .ok (.getfield 11, 3) := by decide +kernel
theorem dX2_rowOf_17 : decode cX2_rowOf 17 = .ok (.iload_n 1, 1) := by decide +kernel
theorem dX2_rowOf_18 : decode cX2_rowOf 18 = .ok (.aaload, 1) := by decide +kernel
theorem dX2_rowOf_19 : decode cX2_rowOf 19 = .ok (.goto 4, 3) := by decide +kernel
theorem dX2_rowOf_22 : decode cX2_rowOf 22 = .ok (.aconst_null, 1) := by decide +kernel
theorem dX2_rowOf_23 : decode cX2_rowOf 23 = .ok (.areturn, 1) := by decide +kernel
theorem dX2_pegOf_0 : decode cX2_pegOf 0 = .ok (.iload_n 1, 1) := by decide +kernel
theorem dX2_pegOf_1 : decode cX2_pegOf 1 = .ok (.ifCond .lt 21, 3) := by decide +kernel
theorem dX2_pegOf_4 : decode cX2_pegOf 4 = .ok (.iload_n 1, 1) := by decide +kernel
theorem dX2_pegOf_5 : decode cX2_pegOf 5 = .ok (.aload_n 0, 1) := by decide +kernel
theorem dX2_pegOf_6 : decode cX2_pegOf 6 = .ok (.getfield 17, 3) := by decide +kernel
theorem dX2_pegOf_9 : decode cX2_pegOf 9 = .ok (.arraylength, 1) := by decide +kernel
theorem dX2_pegOf_10 : decode cX2_pegOf 10 = .ok (.if_icmp .ge 12, 3) := by decide +kernel
theorem dX2_pegOf_13 : decode cX2_pegOf 13 = .ok (.aload_n 0, 1) := by decide +kernel
theorem dX2_pegOf_14 : decode cX2_pegOf 14 = .ok (.getfield 17, 3) := by decide +kernel
theorem dX2_pegOf_17 : decode cX2_pegOf 17 = .ok (.iload_n 1, 1) := by decide +kernel
theorem dX2_pegOf_18 : decode cX2_pegOf 18 = .ok (.aaload, 1) := by decide +kernel
theorem dX2_pegOf_19 : decode cX2_pegOf 19 = .ok (.goto 4, 3) := by decide +kernel
theorem dX2_pegOf_22 : decode cX2_pegOf 22 = .ok (.aconst_null, 1) := by decide +kernel
theorem dX2_pegOf_23 : decode cX2_pegOf 23 = .ok (.areturn, 1) := by decide +kernel
theorem dX2_isName_0 : decode cX2_isName 0 = .ok (.iload_n 0, 1) := by decide +kernel
theorem dX2_isName_1 : decode cX2_isName 1 = .ok (.ifCond .lt 13, 3) := by decide +kernel
theorem dX2_isName_4 : decode cX2_isName 4 = .ok (.iload_n 0, 1) := by decide +kernel
theorem dX2_isName_5 : decode cX2_isName 5 = .ok (.bipush 10, 2) := by decide +kernel
theorem dX2_isName_7 : decode cX2_isName 7 = .ok (.if_icmp .ge 7, 3) := by decide +kernel
theorem dX2_isName_10 : decode cX2_isName 10 = .ok (.iconst 1, 1) := by decide +kernel
theorem dX2_isName_11 : decode cX2_isName 11 = .ok (.goto 4, 3) := by decide +kernel
theorem dX2_isName_14 : decode cX2_isName 14 = .ok (.iconst 0, 1) := by decide +kernel
theorem dX2_isName_15 : decode cX2_isName 15 = .ok (.ireturn, 1) := by decide +kernel
theorem dX2_isEndWay_0 : decode cX2_isEndWay 0 = .ok (.iload_n 0, 1) := by decide +kernel
theorem dX2_isEndWay_1 : decode cX2_isEndWay 1 = .ok (.ifCond .lt 20, 3) := by decide +kernel
theorem dX2_isEndWay_4 : decode cX2_isEndWay 4 = .ok (.iload_n 0, 1) := by decide +kernel
theorem dX2_isEndWay_5 : decode cX2_isEndWay 5 = .ok (.iload_n 2, 1) := by decide +kernel
theorem dX2_isEndWay_6 : decode cX2_isEndWay 6 = .ok (.ifCond .eq 7, 3) := by decide +kernel
theorem dX2_isEndWay_9 : decode cX2_isEndWay 9 = .ok (.iconst 1, 1) := by decide +kernel
theorem dX2_isEndWay_10 : decode cX2_isEndWay 10 = .ok (.goto 4, 3) := by decide +kernel
theorem dX2_isEndWay_13 : decode cX2_isEndWay 13 = .ok (.iload_n 1, 1) := by decide +kernel
theorem dX2_isEndWay_14 : decode cX2_isEndWay 14 = .ok (.if_icmp .gt 7, 3) := by decide +kernel
theorem dX2_isEndWay_17 : decode cX2_isEndWay 17 = .ok (.iconst 1, 1) := by decide +kernel
theorem dX2_isEndWay_18 : decode cX2_isEndWay 18 = .ok (.goto 4, 3) := by decide +kernel
theorem dX2_isEndWay_21 : decode cX2_isEndWay 21 = .ok (.iconst 0, 1) := by decide +kernel
theorem dX2_isEndWay_22 : decode cX2_isEndWay 22 = .ok (.ireturn, 1) := by decide +kernel
theorem dX2_oneIf_0 : decode cX2_oneIf 0 = .ok (.iload_n 0, 1) := by decide +kernel
theorem dX2_oneIf_1 : decode cX2_oneIf 1 = .ok (.ifCond .eq 7, 3) := by decide +kernel
theorem dX2_oneIf_4 : decode cX2_oneIf 4 = .ok (.iconst 1, 1) := by decide +kernel
theorem dX2_oneIf_5 : decode cX2_oneIf 5 = .ok (.goto 4, 3) := by decide +kernel
theorem dX2_oneIf_8 : decode cX2_oneIf 8 = .ok (.iconst 0, 1) := by decide +kernel
theorem dX2_oneIf_9 : decode cX2_oneIf 9 = .ok (.ireturn, 1) := by decide +kernel
theorem dX2_newThing_0 : decode cX2_newThing 0 = .ok (.aload_n 0, 1) := by decide +kernel
theorem dX2_newThing_1 : decode cX2_newThing 1 = .ok (.getfield 146, 3) := by decide +kernel
theorem dX2_newThing_4 : decode cX2_newThing 4 = .ok (.bipush 10, 2) := by decide +kernel
theorem dX2_newThing_6 : decode cX2_newThing 6 = .ok (.imul, 1) := by decide +kernel
theorem dX2_newThing_7 : decode cX2_newThing 7 = .ok (.iload_n 1, 1) := by decide +kernel
theorem dX2_newThing_8 : decode cX2_newThing 8 = .ok (.iadd, 1) := by decide +kernel
theorem dX2_newThing_9 : decode cX2_newThing 9 = .ok (.istore_n 2, 1) := by decide +kernel
theorem dX2_newThing_10 : decode cX2_newThing 10 = .ok (.aload_n 0, 1) := by decide +kernel
theorem dX2_newThing_11 : decode cX2_newThing 11 = .ok (.dup, 1) := by decide +kernel
theorem dX2_newThing_12 : decode cX2_newThing 12 = .ok (.getfield 146, 3) := by decide +kernel
theorem dX2_newThing_15 : decode cX2_newThing 15 = .ok (.iconst 1, 1) := by decide +kernel
theorem dX2_newThing_16 : decode cX2_newThing 16 = .ok (.iadd, 1) := by decide +kernel
theorem dX2_newThing_17 : decode cX2_newThing 17 = .ok (.putfield 146, 3) := by decide +kernel
theorem dX2_newThing_20 : decode cX2_newThing 20 = .ok (.iload_n 2, 1) := by decide +kernel
theorem dX2_newThing_21 : decode cX2_newThing 21 = .ok (.ireturn, 1) := by decide +kernel
set_option maxRecDepth 20000 in
theorem ggX2_noEnd_X2_refused : GoodIn wsX2_noEnd wsX2_refused := goodIn_r _ [5, 6, 7, 8, 9, 10, 11, 12, 13, 14, 15, 16] (by decide +kernel) (by decide +kernel)
set_option maxRecDepth 20000 in
theorem gX2_noEnd_X2_refused : GoodIn wsX2_noEnd (wsV RX2 62 RX2 yX2_refused wsX2_refused) := goodIn_app (goodIn_of _ (by decide +kernel)) ggX2_noEnd_X2_refused
theorem dX2_noEnd_0 : decode cX2_noEnd 0 = .ok (.iload_n 1, 1) := by decide +kernel
theorem dX2_noEnd_1 : decode cX2_noEnd 1 = .ok (.iconst 2, 1) := by decide +kernel
theorem dX2_noEnd_2 : decode cX2_noEnd 2 = .ok (.irem, 1) := by decide +kernel
theorem dX2_noEnd_3 : decode cX2_noEnd 3 = .ok (.ifCond .ne 12, 3) := by decide +kernel
theorem dX2_noEnd_6 : decode cX2_noEnd 6 = .ok (.aload_n 0, 1) := by decide +kernel
theorem dX2_noEnd_7 : decode cX2_noEnd 7 = .ok (.bipush (-6), 2) := by decide +kernel
theorem dX2_noEnd_9 : decode cX2_noEnd 9 = .ok (.invokevirtual 62, 3) := by decide +kernel
theorem dX2_noEnd_12 : decode cX2_noEnd 12 = .ok (.goto 5, 3) := by decide +kernel
theorem dX2_noEnd_15 : decode cX2_noEnd 15 = .ok (.bipush (-6), 2) := by decide +kernel
theorem dX2_noEnd_17 : decode cX2_noEnd 17 = .ok (.ireturn, 1) := by decide +kernel
theorem dX2_refused_0 : decode cX2_refused 0 = .ok (.iload_n 1, 1) := by decide +kernel
theorem dX2_refused_1 : decode cX2_refused 1 = .ok (.tableswitch 66 (-7) (-5) #[53, 27, 40], 27) := by decide +kernel
theorem dX2_refused_28 : decode cX2_refused 28 = .ok (.aload_n 0, 1) := by decide +kernel
theorem dX2_refused_29 : decode cX2_refused 29 = .ok (.dup, 1) := by decide +kernel
theorem dX2_refused_30 : decode cX2_refused 30 = .ok (.getfield 149, 3) := by decide +kernel
theorem dX2_refused_33 : decode cX2_refused 33 = .ok (.iconst 1, 1) := by decide +kernel
theorem dX2_refused_34 : decode cX2_refused 34 = .ok (.iadd, 1) := by decide +kernel
theorem dX2_refused_35 : decode cX2_refused 35 = .ok (.putfield 149, 3) := by decide +kernel
theorem dX2_refused_38 : decode cX2_refused 38 = .ok (.goto 39, 3) := by decide +kernel
theorem dX2_refused_41 : decode cX2_refused 41 = .ok (.aload_n 0, 1) := by decide +kernel
theorem dX2_refused_42 : decode cX2_refused 42 = .ok (.dup, 1) := by decide +kernel
theorem dX2_refused_43 : decode cX2_refused 43 = .ok (.getfield 152, 3) := by decide +kernel
theorem dX2_refused_46 : decode cX2_refused 46 = .ok (.iconst 1, 1) := by decide +kernel
theorem dX2_refused_47 : decode cX2_refused 47 = .ok (.iadd, 1) := by decide +kernel
theorem dX2_refused_48 : decode cX2_refused 48 = .ok (.putfield 152, 3) := by decide +kernel
theorem dX2_refused_51 : decode cX2_refused 51 = .ok (.goto 26, 3) := by decide +kernel
theorem dX2_refused_54 : decode cX2_refused 54 = .ok (.aload_n 0, 1) := by decide +kernel
theorem dX2_refused_55 : decode cX2_refused 55 = .ok (.dup, 1) := by decide +kernel
theorem dX2_refused_56 : decode cX2_refused 56 = .ok (.getfield 155, 3) := by decide +kernel
theorem dX2_refused_59 : decode cX2_refused 59 = .ok (.iconst 1, 1) := by decide +kernel
theorem dX2_refused_60 : decode cX2_refused 60 = .ok (.iadd, 1) := by decide +kernel
theorem dX2_refused_61 : decode cX2_refused 61 = .ok (.putfield 155, 3) := by decide +kernel
theorem dX2_refused_64 : decode cX2_refused 64 = .ok (.goto 13, 3) := by decide +kernel
theorem dX2_refused_67 : decode cX2_refused 67 = .ok (.aload_n 0, 1) := by decide +kernel
theorem dX2_refused_68 : decode cX2_refused 68 = .ok (.dup, 1) := by decide +kernel
theorem dX2_refused_69 : decode cX2_refused 69 = .ok (.getfield 158, 3) := by decide +kernel
theorem dX2_refused_72 : decode cX2_refused 72 = .ok (.iconst 1, 1) := by decide +kernel
theorem dX2_refused_73 : decode cX2_refused 73 = .ok (.iadd, 1) := by decide +kernel
theorem dX2_refused_74 : decode cX2_refused 74 = .ok (.putfield 158, 3) := by decide +kernel
theorem dX2_refused_77 : decode cX2_refused 77 = .ok (.iload_n 1, 1) := by decide +kernel
theorem dX2_refused_78 : decode cX2_refused 78 = .ok (.ireturn, 1) := by decide +kernel
set_option maxRecDepth 20000 in
theorem ggX2_goOver_X2_pegOf : GoodIn wsX2_goOver wsX2_pegOf := goodIn_r _ [5, 6, 43, 44, 45, 46, 47, 48, 49] (by decide +kernel) (by decide +kernel)
set_option maxRecDepth 20000 in
theorem gX2_goOver_X2_pegOf : GoodIn wsX2_goOver (wsV RX2 108 RX2 yX2_pegOf wsX2_pegOf) := goodIn_app (goodIn_of _ (by decide +kernel)) ggX2_goOver_X2_pegOf
set_option maxRecDepth 20000 in
theorem ggX2_goOver_X2_refused : GoodIn wsX2_goOver wsX2_refused := goodIn_r _ [10, 11, 12, 13, 14, 43, 44, 45, 46, 47, 48, 49] (by decide +kernel) (by decide +kernel)
set_option maxRecDepth 20000 in
theorem gX2_goOver_X2_refused : GoodIn wsX2_goOver (wsV RX2 62 RX2 yX2_refused wsX2_refused) := goodIn_app (goodIn_of _ (by decide +kernel)) ggX2_goOver_X2_refused
set_option maxRecDepth 20000 in
theorem ggX2_goOver_X1_hasThingAt : GoodIn wsX2_goOver wsX1_hasThingAt := goodIn_r _ [19, 20, 40, 41, 42] (by decide +kernel) (by decide +kernel)
set_option maxRecDepth 20000 in
theorem gX2_goOver_X1_hasThingAt : GoodIn wsX2_goOver (wsV RX2 59 RX1 yX1_hasThingAt wsX1_hasThingAt) := goodIn_app (goodIn_of _ (by decide +kernel)) ggX2_goOver_X1_hasThingAt
set_option maxRecDepth 20000 in
theorem ggX2_goOver_X1_thingAt : GoodIn wsX2_goOver wsX1_thingAt := goodIn_r _ [24, 25, 40, 41, 42] (by decide +kernel) (by decide +kernel)
set_option maxRecDepth 20000 in
theorem gX2_goOver_X1_thingAt : GoodIn wsX2_goOver (wsV RX2 53 RX1 yX1_thingAt wsX1_thingAt) := goodIn_app (goodIn_of _ (by decide +kernel)) ggX2_goOver_X1_thingAt
set_option maxRecDepth 20000 in
theorem ggX2_goOver_X0_hold : GoodIn wsX2_goOver wsX0_hold := goodIn_r _ [30, 31, 32, 33, 34, 35, 36, 37, 38, 39] (by decide +kernel) (by decide +kernel)
set_option maxRecDepth 20000 in
theorem gX2_goOver_X0_hold : GoodIn wsX2_goOver (wsV RX2 139 RX0 yX0_hold wsX0_hold) := goodIn_app (goodIn_of _ (by decide +kernel)) ggX2_goOver_X0_hold
theorem dX2_goOver_0 : decode cX2_goOver 0 = .ok (.aload_n 0, 1) := by decide +kernel
theorem dX2_goOver_1 : decode cX2_goOver 1 = .ok (.iload_n 1, 1) := by decide +kernel
theorem dX2_goOver_2 : decode cX2_goOver 2 = .ok (.invokevirtual 108, 3) := by decide +kernel
theorem dX2_goOver_5 : decode cX2_goOver 5 = .ok (.astore_n 3, 1) := by decide +kernel
theorem dX2_goOver_6 : decode cX2_goOver 6 = .ok (.aload_n 3, 1) := by decide +kernel
theorem dX2_goOver_7 : decode cX2_goOver 7 = .ok (.ifnonnull 5, 3) := by decide +kernel
theorem dX2_goOver_10 : decode cX2_goOver 10 = .ok (.iconst (-1), 1) := by decide +kernel
theorem dX2_goOver_11 : decode cX2_goOver 11 = .ok (.ireturn, 1) := by decide +kernel
theorem dX2_goOver_12 : decode cX2_goOver 12 = .ok (.aload_n 3, 1) := by decide +kernel
theorem dX2_goOver_13 : decode cX2_goOver 13 = .ok (.getfield 119, 3) := by decide +kernel
theorem dX2_goOver_16 : decode cX2_goOver 16 = .ok (.astore 4, 2) := by decide +kernel
theorem dX2_goOver_18 : decode cX2_goOver 18 = .ok (.aload 4, 2) := by decide +kernel
theorem dX2_goOver_20 : decode cX2_goOver 20 = .ok (.ifnonnull 6, 3) := by decide +kernel
theorem dX2_goOver_23 : decode cX2_goOver 23 = .ok (.bipush (-2), 2) := by decide +kernel
theorem dX2_goOver_25 : decode cX2_goOver 25 = .ok (.ireturn, 1) := by decide +kernel
theorem dX2_goOver_26 : decode cX2_goOver 26 = .ok (.aload_n 3, 1) := by decide +kernel
theorem dX2_goOver_27 : decode cX2_goOver 27 = .ok (.getfield 123, 3) := by decide +kernel
theorem dX2_goOver_30 : decode cX2_goOver 30 = .ok (.aload 4, 2) := by decide +kernel
theorem dX2_goOver_32 : decode cX2_goOver 32 = .ok (.getfield 126, 3) := by decide +kernel
theorem dX2_goOver_35 : decode cX2_goOver 35 = .ok (.if_icmp .eq 10, 3) := by decide +kernel
theorem dX2_goOver_38 : decode cX2_goOver 38 = .ok (.aload_n 0, 1) := by decide +kernel
theorem dX2_goOver_39 : decode cX2_goOver 39 = .ok (.bipush (-4), 2) := by decide +kernel
theorem dX2_goOver_41 : decode cX2_goOver 41 = .ok (.invokevirtual 62, 3) := by decide +kernel
theorem dX2_goOver_44 : decode cX2_goOver 44 = .ok (.ireturn, 1) := by decide +kernel
theorem dX2_goOver_45 : decode cX2_goOver 45 = .ok (.iload_n 2, 1) := by decide +kernel
theorem dX2_goOver_46 : decode cX2_goOver 46 = .ok (.ifCond .eq 10, 3) := by decide +kernel
theorem dX2_goOver_49 : decode cX2_goOver 49 = .ok (.aload_n 3, 1) := by decide +kernel
theorem dX2_goOver_50 : decode cX2_goOver 50 = .ok (.getfield 129, 3) := by decide +kernel
theorem dX2_goOver_53 : decode cX2_goOver 53 = .ok (.goto 9, 3) := by decide +kernel
theorem dX2_goOver_56 : decode cX2_goOver 56 = .ok (.aload_n 3, 1) := by decide +kernel
theorem dX2_goOver_57 : decode cX2_goOver 57 = .ok (.getfield 129, 3) := by decide +kernel
theorem dX2_goOver_60 : decode cX2_goOver 60 = .ok (.iconst 1, 1) := by decide +kernel
theorem dX2_goOver_61 : decode cX2_goOver 61 = .ok (.isub, 1) := by decide +kernel
theorem dX2_goOver_62 : decode cX2_goOver 62 = .ok (.istore 5, 2) := by decide +kernel
theorem dX2_goOver_64 : decode cX2_goOver 64 = .ok (.aload 4, 2) := by decide +kernel
theorem dX2_goOver_66 : decode cX2_goOver 66 = .ok (.iload 5, 2) := by decide +kernel
theorem dX2_goOver_68 : decode cX2_goOver 68 = .ok (.invokevirtual 59, 3) := by decide +kernel
theorem dX2_goOver_71 : decode cX2_goOver 71 = .ok (.ifCond .ne 15, 3) := by decide +kernel
theorem dX2_goOver_74 : decode cX2_goOver 74 = .ok (.aload_n 3, 1) := by decide +kernel
theorem dX2_goOver_75 : decode cX2_goOver 75 = .ok (.iconst 1, 1) := by decide +kernel
theorem dX2_goOver_76 : decode cX2_goOver 76 = .ok (.putfield 167, 3) := by decide +kernel
theorem dX2_goOver_79 : decode cX2_goOver 79 = .ok (.aload_n 0, 1) := by decide +kernel
theorem dX2_goOver_80 : decode cX2_goOver 80 = .ok (.bipush (-6), 2) := by decide +kernel
theorem dX2_goOver_82 : decode cX2_goOver 82 = .ok (.invokevirtual 62, 3) := by decide +kernel
theorem dX2_goOver_85 : decode cX2_goOver 85 = .ok (.ireturn, 1) := by decide +kernel
theorem dX2_goOver_86 : decode cX2_goOver 86 = .ok (.aload_n 3, 1) := by decide +kernel
theorem dX2_goOver_87 : decode cX2_goOver 87 = .ok (.iload_n 2, 1) := by decide +kernel
theorem dX2_goOver_88 : decode cX2_goOver 88 = .ok (.ifCond .eq 10, 3) := by decide +kernel
theorem dX2_goOver_91 : decode cX2_goOver 91 = .ok (.iload 5, 2) := by decide +kernel
theorem dX2_goOver_93 : decode cX2_goOver 93 = .ok (.iconst 1, 1) := by decide +kernel
theorem dX2_goOver_94 : decode cX2_goOver 94 = .ok (.iadd, 1) := by decide +kernel
theorem dX2_goOver_95 : decode cX2_goOver 95 = .ok (.goto 5, 3) := by decide +kernel
theorem dX2_goOver_98 : decode cX2_goOver 98 = .ok (.iload 5, 2) := by decide +kernel
theorem dX2_goOver_100 : decode cX2_goOver 100 = .ok (.putfield 129, 3) := by decide +kernel
theorem dX2_goOver_103 : decode cX2_goOver 103 = .ok (.aload_n 3, 1) := by decide +kernel
theorem dX2_goOver_104 : decode cX2_goOver 104 = .ok (.iload 5, 2) := by decide +kernel
theorem dX2_goOver_106 : decode cX2_goOver 106 = .ok (.aload 4, 2) := by decide +kernel
theorem dX2_goOver_108 : decode cX2_goOver 108 = .ok (.iload 5, 2) := by decide +kernel
theorem dX2_goOver_110 : decode cX2_goOver 110 = .ok (.invokevirtual 53, 3) := by decide +kernel
theorem dX2_goOver_113 : decode cX2_goOver 113 = .ok (.invokevirtual 139, 3) := by decide +kernel
theorem dX2_goOver_116 : decode cX2_goOver 116 = .ok (.ireturn, 1) := by decide +kernel
set_option maxRecDepth 20000 in
theorem ggX2_handFault_X2_refused : GoodIn wsX2_handFault wsX2_refused := goodIn_r _ [5, 6, 7, 8, 9, 30, 31, 32, 33, 34, 35, 36] (by decide +kernel) (by decide +kernel)
set_option maxRecDepth 20000 in
theorem gX2_handFault_X2_refused : GoodIn wsX2_handFault (wsV RX2 62 RX2 yX2_refused wsX2_refused) := goodIn_app (goodIn_of _ (by decide +kernel)) ggX2_handFault_X2_refused
set_option maxRecDepth 20000 in
theorem ggX2_handFault_X1_hasThingAt : GoodIn wsX2_handFault wsX1_hasThingAt := goodIn_r _ [14, 15, 27, 28, 29] (by decide +kernel) (by decide +kernel)
set_option maxRecDepth 20000 in
theorem gX2_handFault_X1_hasThingAt : GoodIn wsX2_handFault (wsV RX2 59 RX1 yX1_hasThingAt wsX1_hasThingAt) := goodIn_app (goodIn_of _ (by decide +kernel)) ggX2_handFault_X1_hasThingAt
set_option maxRecDepth 20000 in
theorem ggX2_handFault_X1_thingAt : GoodIn wsX2_handFault wsX1_thingAt := goodIn_r _ [19, 20, 27, 28, 29] (by decide +kernel) (by decide +kernel)
set_option maxRecDepth 20000 in
theorem gX2_handFault_X1_thingAt : GoodIn wsX2_handFault (wsV RX2 53 RX1 yX1_thingAt wsX1_thingAt) := goodIn_app (goodIn_of _ (by decide +kernel)) ggX2_handFault_X1_thingAt
theorem dX2_handFault_0 : decode cX2_handFault 0 = .ok (.aload_n 1, 1) := by decide +kernel
theorem dX2_handFault_1 : decode cX2_handFault 1 = .ok (.getfield 123, 3) := by decide +kernel
theorem dX2_handFault_4 : decode cX2_handFault 4 = .ok (.aload_n 2, 1) := by decide +kernel
theorem dX2_handFault_5 : decode cX2_handFault 5 = .ok (.getfield 126, 3) := by decide +kernel
theorem dX2_handFault_8 : decode cX2_handFault 8 = .ok (.if_icmp .eq 10, 3) := by decide +kernel
theorem dX2_handFault_11 : decode cX2_handFault 11 = .ok (.aload_n 0, 1) := by decide +kernel
theorem dX2_handFault_12 : decode cX2_handFault 12 = .ok (.bipush (-4), 2) := by decide +kernel
theorem dX2_handFault_14 : decode cX2_handFault 14 = .ok (.invokevirtual 62, 3) := by decide +kernel
theorem dX2_handFault_17 : decode cX2_handFault 17 = .ok (.ireturn, 1) := by decide +kernel
theorem dX2_handFault_18 : decode cX2_handFault 18 = .ok (.aload_n 1, 1) := by decide +kernel
theorem dX2_handFault_19 : decode cX2_handFault 19 = .ok (.getfield 167, 3) := by decide +kernel
theorem dX2_handFault_22 : decode cX2_handFault 22 = .ok (.ifCond .eq 6, 3) := by decide +kernel
theorem dX2_handFault_25 : decode cX2_handFault 25 = .ok (.bipush (-8), 2) := by decide +kernel
theorem dX2_handFault_27 : decode cX2_handFault 27 = .ok (.ireturn, 1) := by decide +kernel
theorem dX2_handFault_28 : decode cX2_handFault 28 = .ok (.aload_n 2, 1) := by decide +kernel
theorem dX2_handFault_29 : decode cX2_handFault 29 = .ok (.aload_n 1, 1) := by decide +kernel
theorem dX2_handFault_30 : decode cX2_handFault 30 = .ok (.getfield 136, 3) := by decide +kernel
theorem dX2_handFault_33 : decode cX2_handFault 33 = .ok (.invokevirtual 59, 3) := by decide +kernel
theorem dX2_handFault_36 : decode cX2_handFault 36 = .ok (.ifCond .ne 10, 3) := by decide +kernel
theorem dX2_handFault_39 : decode cX2_handFault 39 = .ok (.aload_n 0, 1) := by decide +kernel
theorem dX2_handFault_40 : decode cX2_handFault 40 = .ok (.bipush (-7), 2) := by decide +kernel
theorem dX2_handFault_42 : decode cX2_handFault 42 = .ok (.invokevirtual 62, 3) := by decide +kernel
theorem dX2_handFault_45 : decode cX2_handFault 45 = .ok (.ireturn, 1) := by decide +kernel
theorem dX2_handFault_46 : decode cX2_handFault 46 = .ok (.aload_n 2, 1) := by decide +kernel
theorem dX2_handFault_47 : decode cX2_handFault 47 = .ok (.aload_n 1, 1) := by decide +kernel
theorem dX2_handFault_48 : decode cX2_handFault 48 = .ok (.getfield 136, 3) := by decide +kernel
theorem dX2_handFault_51 : decode cX2_handFault 51 = .ok (.invokevirtual 53, 3) := by decide +kernel
theorem dX2_handFault_54 : decode cX2_handFault 54 = .ok (.aload_n 1, 1) := by decide +kernel
theorem dX2_handFault_55 : decode cX2_handFault 55 = .ok (.getfield 171, 3) := by decide +kernel
theorem dX2_handFault_58 : decode cX2_handFault 58 = .ok (.if_icmp .ne 7, 3) := by decide +kernel
theorem dX2_handFault_61 : decode cX2_handFault 61 = .ok (.iconst 0, 1) := by decide +kernel
theorem dX2_handFault_62 : decode cX2_handFault 62 = .ok (.goto 5, 3) := by decide +kernel
theorem dX2_handFault_65 : decode cX2_handFault 65 = .ok (.bipush (-8), 2) := by decide +kernel
theorem dX2_handFault_67 : decode cX2_handFault 67 = .ok (.ireturn, 1) := by decide +kernel
theorem dX2_standingPegs_0 : decode cX2_standingPegs 0 = .ok (.iconst 0, 1) := by decide +kernel
theorem dX2_standingPegs_1 : decode cX2_standingPegs 1 = .ok (.istore_n 1, 1) := by decide +kernel
theorem dX2_standingPegs_2 : decode cX2_standingPegs 2 = .ok (.iconst 0, 1) := by decide +kernel
theorem dX2_standingPegs_3 : decode cX2_standingPegs 3 = .ok (.istore_n 2, 1) := by decide +kernel
theorem dX2_standingPegs_4 : decode cX2_standingPegs 4 = .ok (.iload_n 2, 1) := by decide +kernel
theorem dX2_standingPegs_5 : decode cX2_standingPegs 5 = .ok (.aload_n 0, 1) := by decide +kernel
theorem dX2_standingPegs_6 : decode cX2_standingPegs 6 = .ok (.getfield 17, 3) := by decide +kernel
theorem dX2_standingPegs_9 : decode cX2_standingPegs 9 = .ok (.arraylength, 1) := by decide +kernel
theorem dX2_standingPegs_10 : decode cX2_standingPegs 10 = .ok (.if_icmp .ge 24, 3) := by decide +kernel
theorem dX2_standingPegs_13 : decode cX2_standingPegs 13 = .ok (.aload_n 0, 1) := by decide +kernel
theorem dX2_standingPegs_14 : decode cX2_standingPegs 14 = .ok (.getfield 17, 3) := by decide +kernel
theorem dX2_standingPegs_17 : decode cX2_standingPegs 17 = .ok (.iload_n 2, 1) := by decide +kernel
theorem dX2_standingPegs_18 : decode cX2_standingPegs 18 = .ok (.aaload, 1) := by decide +kernel
theorem dX2_standingPegs_19 : decode cX2_standingPegs 19 = .ok (.getfield 119, 3) := by decide +kernel
theorem dX2_standingPegs_22 : decode cX2_standingPegs 22 = .ok (.ifnull 6, 3) := by decide +kernel
theorem dX2_standingPegs_25 : decode cX2_standingPegs 25 = .ok (.iinc 1 1, 3) := by decide +kernel
theorem dX2_standingPegs_28 : decode cX2_standingPegs 28 = .ok (.iinc 2 1, 3) := by decide +kernel
theorem dX2_standingPegs_31 : decode cX2_standingPegs 31 = .ok (.goto (-27), 3) := by decide +kernel
theorem dX2_standingPegs_34 : decode cX2_standingPegs 34 = .ok (.iload_n 1, 1) := by decide +kernel
theorem dX2_standingPegs_35 : decode cX2_standingPegs 35 = .ok (.ireturn, 1) := by decide +kernel
set_option maxRecDepth 20000 in
theorem ggX2_oldPegs_X0_isOld : GoodIn wsX2_oldPegs wsX0_isOld := goodIn_r _ [6, 7, 8, 16, 17, 18, 19, 20, 21, 22, 23, 24] (by decide +kernel) (by decide +kernel)
set_option maxRecDepth 20000 in
theorem gX2_oldPegs_X0_isOld : GoodIn wsX2_oldPegs (wsV RX2 142 RX0 yX0_isOld wsX0_isOld) := goodIn_app (goodIn_of _ (by decide +kernel)) ggX2_oldPegs_X0_isOld
theorem dX2_oldPegs_0 : decode cX2_oldPegs 0 = .ok (.iconst 0, 1) := by decide +kernel
theorem dX2_oldPegs_1 : decode cX2_oldPegs 1 = .ok (.istore_n 1, 1) := by decide +kernel
theorem dX2_oldPegs_2 : decode cX2_oldPegs 2 = .ok (.iconst 0, 1) := by decide +kernel
theorem dX2_oldPegs_3 : decode cX2_oldPegs 3 = .ok (.istore_n 2, 1) := by decide +kernel
theorem dX2_oldPegs_4 : decode cX2_oldPegs 4 = .ok (.iload_n 2, 1) := by decide +kernel
theorem dX2_oldPegs_5 : decode cX2_oldPegs 5 = .ok (.aload_n 0, 1) := by decide +kernel
theorem dX2_oldPegs_6 : decode cX2_oldPegs 6 = .ok (.getfield 17, 3) := by decide +kernel
theorem dX2_oldPegs_9 : decode cX2_oldPegs 9 = .ok (.arraylength, 1) := by decide +kernel
theorem dX2_oldPegs_10 : decode cX2_oldPegs 10 = .ok (.if_icmp .ge 24, 3) := by decide +kernel
theorem dX2_oldPegs_13 : decode cX2_oldPegs 13 = .ok (.aload_n 0, 1) := by decide +kernel
theorem dX2_oldPegs_14 : decode cX2_oldPegs 14 = .ok (.getfield 17, 3) := by decide +kernel
theorem dX2_oldPegs_17 : decode cX2_oldPegs 17 = .ok (.iload_n 2, 1) := by decide +kernel
theorem dX2_oldPegs_18 : decode cX2_oldPegs 18 = .ok (.aaload, 1) := by decide +kernel
theorem dX2_oldPegs_19 : decode cX2_oldPegs 19 = .ok (.invokevirtual 142, 3) := by decide +kernel
theorem dX2_oldPegs_22 : decode cX2_oldPegs 22 = .ok (.ifCond .eq 6, 3) := by decide +kernel
theorem dX2_oldPegs_25 : decode cX2_oldPegs 25 = .ok (.iinc 1 1, 3) := by decide +kernel
theorem dX2_oldPegs_28 : decode cX2_oldPegs 28 = .ok (.iinc 2 1, 3) := by decide +kernel
theorem dX2_oldPegs_31 : decode cX2_oldPegs 31 = .ok (.goto (-27), 3) := by decide +kernel
theorem dX2_oldPegs_34 : decode cX2_oldPegs 34 = .ok (.iload_n 1, 1) := by decide +kernel
theorem dX2_oldPegs_35 : decode cX2_oldPegs 35 = .ok (.ireturn, 1) := by decide +kernel
end
section
theorem dX3_init_0 : decode cX3_init 0 = .ok (.aload_n 0, 1) := by decide +kernel
theorem dX3_init_1 : decode cX3_init 1 = .ok (.invokespecial 1, 3) := by decide +kernel
theorem dX3_init_4 : decode cX3_init 4 = .ok (.aload_n 0, 1) := by decide +kernel
theorem dX3_init_5 : decode cX3_init 5 = .ok (.sipush 192, 3) := by decide +kernel
theorem dX3_init_8 : decode cX3_init 8 = .ok (.newarray .int, 2) := by decide +kernel
theorem dX3_init_10 : decode cX3_init 10 = .ok (.putfield 7, 3) := by decide +kernel
theorem dX3_init_13 : decode cX3_init 13 = .ok (.aload_n 0, 1) := by decide +kernel
theorem dX3_init_14 : decode cX3_init 14 = .ok (.iconst 3, 1) := by decide +kernel
theorem dX3_init_15 : decode cX3_init 15 = .ok (.newarray .int, 2) := by decide +kernel
theorem dX3_init_17 : decode cX3_init 17 = .ok (.putfield 13, 3) := by decide +kernel
theorem dX3_init_20 : decode cX3_init 20 = .ok (.aload_n 0, 1) := by decide +kernel
theorem dX3_init_21 : decode cX3_init 21 = .ok (.iconst 4, 1) := by decide +kernel
theorem dX3_init_22 : decode cX3_init 22 = .ok (.newarray .int, 2) := by decide +kernel
theorem dX3_init_24 : decode cX3_init 24 = .ok (.putfield 16, 3) := by decide +kernel
theorem dX3_init_27 : decode cX3_init 27 = .ok (.aload_n 0, 1) := by decide +kernel
theorem dX3_init_28 : decode cX3_init 28 = .ok (.iconst 4, 1) := by decide +kernel
theorem dX3_init_29 : decode cX3_init 29 = .ok (.newarray .int, 2) := by decide +kernel
theorem dX3_init_31 : decode cX3_init 31 = .ok (.putfield 19, 3) := by decide +kernel
theorem dX3_init_34 : decode cX3_init 34 = .ok (.aload_n 0, 1) := by decide +kernel
theorem dX3_init_35 : decode cX3_init 35 = .ok (.iconst 4, 1) := by decide +kernel
theorem dX3_init_36 : decode cX3_init 36 = .ok (.newarray .int, 2) := by decide +kernel
theorem dX3_init_38 : decode cX3_init 38 = .ok (.putfield 22, 3) := by decide +kernel
theorem dX3_init_41 : decode cX3_init 41 = .ok (.aload_n 0, 1) := by decide +kernel
theorem dX3_init_42 : decode cX3_init 42 = .ok (.iconst 4, 1) := by decide +kernel
theorem dX3_init_43 : decode cX3_init 43 = .ok (.newarray .int, 2) := by decide +kernel
theorem dX3_init_45 : decode cX3_init 45 = .ok (.putfield 25, 3) := by decide +kernel
theorem dX3_init_48 : decode cX3_init 48 = .ok (.aload_n 0, 1) := by decide +kernel
theorem dX3_init_49 : decode cX3_init 49 = .ok (.iconst 4, 1) := by decide +kernel
theorem dX3_init_50 : decode cX3_init 50 = .ok (.newarray .int, 2) := by decide +kernel
theorem dX3_init_52 : decode cX3_init 52 = .ok (.putfield 28, 3) := by decide +kernel
theorem dX3_init_55 : decode cX3_init 55 = .ok (.aload_n 0, 1) := by decide +kernel
theorem dX3_init_56 : decode cX3_init 56 = .ok (.iconst 4, 1) := by decide +kernel
theorem dX3_init_57 : decode cX3_init 57 = .ok (.newarray .int, 2) := by decide +kernel
theorem dX3_init_59 : decode cX3_init 59 = .ok (.putfield 31, 3) := by decide +kernel
theorem dX3_init_62 : decode cX3_init 62 = .ok (.aload_n 0, 1) := by decide +kernel
theorem dX3_init_63 : decode cX3_init 63 = .ok (.iconst 4, 1) := by decide +kernel
theorem dX3_init_64 : decode cX3_init 64 = .ok (.newarray .int, 2) := by decide +kernel
theorem dX3_init_66 : decode cX3_init 66 = .ok (.putfield 34, 3) := by decide +kernel
theorem dX3_init_69 : decode cX3_init 69 = .ok (.aload_n 0, 1) := by decide +kernel
theorem dX3_init_70 : decode cX3_init 70 = .ok (.bipush 64, 2) := by decide +kernel
theorem dX3_init_72 : decode cX3_init 72 = .ok (.newarray .int, 2) := by decide +kernel
theorem dX3_init_74 : decode cX3_init 74 = .ok (.putfield 37, 3) := by decide +kernel
theorem dX3_init_77 : decode cX3_init 77 = .ok (.iconst 0, 1) := by decide +kernel
theorem dX3_init_78 : decode cX3_init 78 = .ok (.istore_n 1, 1) := by decide +kernel
theorem dX3_init_79 : decode cX3_init 79 = .ok (.iload_n 1, 1) := by decide +kernel
theorem dX3_init_80 : decode cX3_init 80 = .ok (.iconst 4, 1) := by decide +kernel
theorem dX3_init_81 : decode cX3_init 81 = .ok (.if_icmp .ge 23, 3) := by decide +kernel
theorem dX3_init_84 : decode cX3_init 84 = .ok (.aload_n 0, 1) := by decide +kernel
theorem dX3_init_85 : decode cX3_init 85 = .ok (.getfield 19, 3) := by decide +kernel
theorem dX3_init_88 : decode cX3_init 88 = .ok (.iload_n 1, 1) := by decide +kernel
theorem dX3_init_89 : decode cX3_init 89 = .ok (.iconst (-1), 1) := by decide +kernel
theorem dX3_init_90 : decode cX3_init 90 = .ok (.iastore, 1) := by decide +kernel
theorem dX3_init_91 : decode cX3_init 91 = .ok (.aload_n 0, 1) := by decide +kernel
theorem dX3_init_92 : decode cX3_init 92 = .ok (.getfield 25, 3) := by decide +kernel
theorem dX3_init_95 : decode cX3_init 95 = .ok (.iload_n 1, 1) := by decide +kernel
theorem dX3_init_96 : decode cX3_init 96 = .ok (.iconst (-1), 1) := by decide +kernel
theorem dX3_init_97 : decode cX3_init 97 = .ok (.iastore, 1) := by decide +kernel
theorem dX3_init_98 : decode cX3_init 98 = .ok (.iinc 1 1, 3) := by decide +kernel
theorem dX3_init_101 : decode cX3_init 101 = .ok (.goto (-22), 3) := by decide +kernel
theorem dX3_init_104 : decode cX3_init 104 = .ok (.return_, 1) := by decide +kernel
theorem dX3_in_0 : decode cX3_in 0 = .ok (.iload_n 0, 1) := by decide +kernel
theorem dX3_in_1 : decode cX3_in 1 = .ok (.iload_n 1, 1) := by decide +kernel
theorem dX3_in_2 : decode cX3_in 2 = .ok (.if_icmp .lt 12, 3) := by decide +kernel
theorem dX3_in_5 : decode cX3_in 5 = .ok (.iload_n 0, 1) := by decide +kernel
theorem dX3_in_6 : decode cX3_in 6 = .ok (.iload_n 2, 1) := by decide +kernel
theorem dX3_in_7 : decode cX3_in 7 = .ok (.if_icmp .gt 7, 3) := by decide +kernel
theorem dX3_in_10 : decode cX3_in 10 = .ok (.iconst 1, 1) := by decide +kernel
theorem dX3_in_11 : decode cX3_in 11 = .ok (.goto 4, 3) := by decide +kernel
theorem dX3_in_14 : decode cX3_in 14 = .ok (.iconst 0, 1) := by decide +kernel
theorem dX3_in_15 : decode cX3_in 15 = .ok (.ireturn, 1) := by decide +kernel
set_option maxRecDepth 20000 in
theorem ggX3_isRow_X3_in : GoodIn wsX3_isRow wsX3_in := goodIn_r _ [4] (by decide +kernel) (by decide +kernel)
set_option maxRecDepth 20000 in
theorem gX3_isRow_X3_in : GoodIn wsX3_isRow (va_wsS RX3 40 yX3_in wsX3_in) := goodIn_app (goodIn_of _ (by decide +kernel)) ggX3_isRow_X3_in
theorem dX3_isRow_0 : decode cX3_isRow 0 = .ok (.iload_n 0, 1) := by decide +kernel
theorem dX3_isRow_1 : decode cX3_isRow 1 = .ok (.iconst 0, 1) := by decide +kernel
theorem dX3_isRow_2 : decode cX3_isRow 2 = .ok (.iconst 2, 1) := by decide +kernel
theorem dX3_isRow_3 : decode cX3_isRow 3 = .ok (.invokestatic 40, 3) := by decide +kernel
theorem dX3_isRow_6 : decode cX3_isRow 6 = .ok (.ireturn, 1) := by decide +kernel
set_option maxRecDepth 20000 in
theorem ggX3_isName_X3_in : GoodIn wsX3_isName wsX3_in := goodIn_r _ [4] (by decide +kernel) (by decide +kernel)
set_option maxRecDepth 20000 in
theorem gX3_isName_X3_in : GoodIn wsX3_isName (va_wsS RX3 40 yX3_in wsX3_in) := goodIn_app (goodIn_of _ (by decide +kernel)) ggX3_isName_X3_in
theorem dX3_isName_0 : decode cX3_isName 0 = .ok (.iload_n 0, 1) := by decide +kernel
theorem dX3_isName_1 : decode cX3_isName 1 = .ok (.iconst 0, 1) := by decide +kernel
theorem dX3_isName_2 : decode cX3_isName 2 = .ok (.bipush 9, 2) := by decide +kernel
theorem dX3_isName_4 : decode cX3_isName 4 = .ok (.invokestatic 40, 3) := by decide +kernel
theorem dX3_isName_7 : decode cX3_isName 7 = .ok (.ireturn, 1) := by decide +kernel
set_option maxRecDepth 20000 in
theorem ggX3_isPeg_X3_in : GoodIn wsX3_isPeg wsX3_in := goodIn_r _ [4] (by decide +kernel) (by decide +kernel)
set_option maxRecDepth 20000 in
theorem gX3_isPeg_X3_in : GoodIn wsX3_isPeg (va_wsS RX3 40 yX3_in wsX3_in) := goodIn_app (goodIn_of _ (by decide +kernel)) ggX3_isPeg_X3_in
theorem dX3_isPeg_0 : decode cX3_isPeg 0 = .ok (.iload_n 0, 1) := by decide +kernel
theorem dX3_isPeg_1 : decode cX3_isPeg 1 = .ok (.iconst 0, 1) := by decide +kernel
theorem dX3_isPeg_2 : decode cX3_isPeg 2 = .ok (.iconst 3, 1) := by decide +kernel
theorem dX3_isPeg_3 : decode cX3_isPeg 3 = .ok (.invokestatic 40, 3) := by decide +kernel
theorem dX3_isPeg_6 : decode cX3_isPeg 6 = .ok (.ireturn, 1) := by decide +kernel
theorem dX3_refuse_0 : decode cX3_refuse 0 = .ok (.aload_n 0, 1) := by decide +kernel
theorem dX3_refuse_1 : decode cX3_refuse 1 = .ok (.getfield 16, 3) := by decide +kernel
theorem dX3_refuse_4 : decode cX3_refuse 4 = .ok (.iload_n 1, 1) := by decide +kernel
theorem dX3_refuse_5 : decode cX3_refuse 5 = .ok (.dup2, 1) := by decide +kernel
theorem dX3_refuse_6 : decode cX3_refuse 6 = .ok (.iaload, 1) := by decide +kernel
theorem dX3_refuse_7 : decode cX3_refuse 7 = .ok (.iconst 1, 1) := by decide +kernel
theorem dX3_refuse_8 : decode cX3_refuse 8 = .ok (.iadd, 1) := by decide +kernel
theorem dX3_refuse_9 : decode cX3_refuse 9 = .ok (.iastore, 1) := by decide +kernel
theorem dX3_refuse_10 : decode cX3_refuse 10 = .ok (.iload_n 2, 1) := by decide +kernel
theorem dX3_refuse_11 : decode cX3_refuse 11 = .ok (.ireturn, 1) := by decide +kernel
theorem dX3_make_0 : decode cX3_make 0 = .ok (.aload_n 0, 1) := by decide +kernel
theorem dX3_make_1 : decode cX3_make 1 = .ok (.dup, 1) := by decide +kernel
theorem dX3_make_2 : decode cX3_make 2 = .ok (.getfield 44, 3) := by decide +kernel
theorem dX3_make_5 : decode cX3_make 5 = .ok (.iconst 1, 1) := by decide +kernel
theorem dX3_make_6 : decode cX3_make 6 = .ok (.iadd, 1) := by decide +kernel
theorem dX3_make_7 : decode cX3_make 7 = .ok (.putfield 44, 3) := by decide +kernel
theorem dX3_make_10 : decode cX3_make 10 = .ok (.bipush 10, 2) := by decide +kernel
theorem dX3_make_12 : decode cX3_make 12 = .ok (.aload_n 0, 1) := by decide +kernel
theorem dX3_make_13 : decode cX3_make 13 = .ok (.getfield 44, 3) := by decide +kernel
theorem dX3_make_16 : decode cX3_make 16 = .ok (.iconst 1, 1) := by decide +kernel
theorem dX3_make_17 : decode cX3_make 17 = .ok (.isub, 1) := by decide +kernel
theorem dX3_make_18 : decode cX3_make 18 = .ok (.imul, 1) := by decide +kernel
theorem dX3_make_19 : decode cX3_make 19 = .ok (.iload_n 1, 1) := by decide +kernel
theorem dX3_make_20 : decode cX3_make 20 = .ok (.iadd, 1) := by decide +kernel
theorem dX3_make_21 : decode cX3_make 21 = .ok (.ireturn, 1) := by decide +kernel
theorem dX3_thing_0 : decode cX3_thing 0 = .ok (.aload_n 0, 1) := by decide +kernel
theorem dX3_thing_1 : decode cX3_thing 1 = .ok (.getfield 7, 3) := by decide +kernel
theorem dX3_thing_4 : decode cX3_thing 4 = .ok (.bipush 64, 2) := by decide +kernel
theorem dX3_thing_6 : decode cX3_thing 6 = .ok (.iload_n 1, 1) := by decide +kernel
theorem dX3_thing_7 : decode cX3_thing 7 = .ok (.imul, 1) := by decide +kernel
theorem dX3_thing_8 : decode cX3_thing 8 = .ok (.iload_n 2, 1) := by decide +kernel
theorem dX3_thing_9 : decode cX3_thing 9 = .ok (.iadd, 1) := by decide +kernel
theorem dX3_thing_10 : decode cX3_thing 10 = .ok (.iaload, 1) := by decide +kernel
theorem dX3_thing_11 : decode cX3_thing 11 = .ok (.ireturn, 1) := by decide +kernel
theorem dX3_age_0 : decode cX3_age 0 = .ok (.iconst 0, 1) := by decide +kernel
theorem dX3_age_1 : decode cX3_age 1 = .ok (.istore_n 3, 1) := by decide +kernel
theorem dX3_age_2 : decode cX3_age 2 = .ok (.iload_n 3, 1) := by decide +kernel
theorem dX3_age_3 : decode cX3_age 3 = .ok (.iconst 4, 1) := by decide +kernel
theorem dX3_age_4 : decode cX3_age 4 = .ok (.if_icmp .ge 40, 3) := by decide +kernel
theorem dX3_age_7 : decode cX3_age 7 = .ok (.aload_n 0, 1) := by decide +kernel
theorem dX3_age_8 : decode cX3_age 8 = .ok (.getfield 34, 3) := by decide +kernel
theorem dX3_age_11 : decode cX3_age 11 = .ok (.iload_n 3, 1) := by decide +kernel
theorem dX3_age_12 : decode cX3_age 12 = .ok (.aload_n 0, 1) := by decide +kernel
theorem dX3_age_13 : decode cX3_age 13 = .ok (.getfield 19, 3) := by decide +kernel
theorem dX3_age_16 : decode cX3_age 16 = .ok (.iload_n 3, 1) := by decide +kernel
theorem dX3_age_17 : decode cX3_age 17 = .ok (.iaload, 1) := by decide +kernel
theorem dX3_age_18 : decode cX3_age 18 = .ok (.iload_n 1, 1) := by decide +kernel
theorem dX3_age_19 : decode cX3_age 19 = .ok (.if_icmp .ne 12, 3) := by decide +kernel
theorem dX3_age_22 : decode cX3_age 22 = .ok (.iload_n 3, 1) := by decide +kernel
theorem dX3_age_23 : decode cX3_age 23 = .ok (.iload_n 2, 1) := by decide +kernel
theorem dX3_age_24 : decode cX3_age 24 = .ok (.if_icmp .eq 7, 3) := by decide +kernel
theorem dX3_age_27 : decode cX3_age 27 = .ok (.iconst 1, 1) := by decide +kernel
theorem dX3_age_28 : decode cX3_age 28 = .ok (.goto 9, 3) := by decide +kernel
theorem dX3_age_31 : decode cX3_age 31 = .ok (.aload_n 0, 1) := by decide +kernel
theorem dX3_age_32 : decode cX3_age 32 = .ok (.getfield 34, 3) := by decide +kernel
theorem dX3_age_35 : decode cX3_age 35 = .ok (.iload_n 3, 1) := by decide +kernel
theorem dX3_age_36 : decode cX3_age 36 = .ok (.iaload, 1) := by decide +kernel
theorem dX3_age_37 : decode cX3_age 37 = .ok (.iastore, 1) := by decide +kernel
theorem dX3_age_38 : decode cX3_age 38 = .ok (.iinc 3 1, 3) := by decide +kernel
theorem dX3_age_41 : decode cX3_age 41 = .ok (.goto (-39), 3) := by decide +kernel
theorem dX3_age_44 : decode cX3_age 44 = .ok (.return_, 1) := by decide +kernel
set_option maxRecDepth 20000 in
theorem ggX3_open_X3_thing : GoodIn wsX3_open wsX3_thing := goodIn_r _ [7, 2, 8, 9, 10, 11, 12, 13, 14, 15, 16, 17, 18] (by decide +kernel) (by decide +kernel)
set_option maxRecDepth 20000 in
theorem gX3_open_X3_thing : GoodIn wsX3_open (wsV RX3 48 RX3 yX3_thing wsX3_thing) := goodIn_app (goodIn_of _ (by decide +kernel)) ggX3_open_X3_thing
theorem dX3_open_0 : decode cX3_open 0 = .ok (.aload_n 0, 1) := by decide +kernel
theorem dX3_open_1 : decode cX3_open 1 = .ok (.getfield 13, 3) := by decide +kernel
theorem dX3_open_4 : decode cX3_open 4 = .ok (.iload_n 1, 1) := by decide +kernel
theorem dX3_open_5 : decode cX3_open 5 = .ok (.iaload, 1) := by decide +kernel
theorem dX3_open_6 : decode cX3_open 6 = .ok (.istore 4, 2) := by decide +kernel
theorem dX3_open_8 : decode cX3_open 8 = .ok (.iload 4, 2) := by decide +kernel
theorem dX3_open_10 : decode cX3_open 10 = .ok (.iload_n 2, 1) := by decide +kernel
theorem dX3_open_11 : decode cX3_open 11 = .ok (.if_icmp .le 30, 3) := by decide +kernel
theorem dX3_open_14 : decode cX3_open 14 = .ok (.aload_n 0, 1) := by decide +kernel
theorem dX3_open_15 : decode cX3_open 15 = .ok (.getfield 7, 3) := by decide +kernel
theorem dX3_open_18 : decode cX3_open 18 = .ok (.bipush 64, 2) := by decide +kernel
theorem dX3_open_20 : decode cX3_open 20 = .ok (.iload_n 1, 1) := by decide +kernel
theorem dX3_open_21 : decode cX3_open 21 = .ok (.imul, 1) := by decide +kernel
theorem dX3_open_22 : decode cX3_open 22 = .ok (.iload 4, 2) := by decide +kernel
theorem dX3_open_24 : decode cX3_open 24 = .ok (.iadd, 1) := by decide +kernel
theorem dX3_open_25 : decode cX3_open 25 = .ok (.aload_n 0, 1) := by decide +kernel
theorem dX3_open_26 : decode cX3_open 26 = .ok (.iload_n 1, 1) := by decide +kernel
theorem dX3_open_27 : decode cX3_open 27 = .ok (.iload 4, 2) := by decide +kernel
theorem dX3_open_29 : decode cX3_open 29 = .ok (.iconst 1, 1) := by decide +kernel
theorem dX3_open_30 : decode cX3_open 30 = .ok (.isub, 1) := by decide +kernel
theorem dX3_open_31 : decode cX3_open 31 = .ok (.invokevirtual 48, 3) := by decide +kernel
theorem dX3_open_34 : decode cX3_open 34 = .ok (.iastore, 1) := by decide +kernel
theorem dX3_open_35 : decode cX3_open 35 = .ok (.iinc 4 (-1), 3) := by decide +kernel
theorem dX3_open_38 : decode cX3_open 38 = .ok (.goto (-30), 3) := by decide +kernel
theorem dX3_open_41 : decode cX3_open 41 = .ok (.aload_n 0, 1) := by decide +kernel
theorem dX3_open_42 : decode cX3_open 42 = .ok (.getfield 7, 3) := by decide +kernel
theorem dX3_open_45 : decode cX3_open 45 = .ok (.bipush 64, 2) := by decide +kernel
theorem dX3_open_47 : decode cX3_open 47 = .ok (.iload_n 1, 1) := by decide +kernel
theorem dX3_open_48 : decode cX3_open 48 = .ok (.imul, 1) := by decide +kernel
theorem dX3_open_49 : decode cX3_open 49 = .ok (.iload_n 2, 1) := by decide +kernel
theorem dX3_open_50 : decode cX3_open 50 = .ok (.iadd, 1) := by decide +kernel
theorem dX3_open_51 : decode cX3_open 51 = .ok (.iload_n 3, 1) := by decide +kernel
theorem dX3_open_52 : decode cX3_open 52 = .ok (.iastore, 1) := by decide +kernel
theorem dX3_open_53 : decode cX3_open 53 = .ok (.aload_n 0, 1) := by decide +kernel
theorem dX3_open_54 : decode cX3_open 54 = .ok (.getfield 13, 3) := by decide +kernel
theorem dX3_open_57 : decode cX3_open 57 = .ok (.iload_n 1, 1) := by decide +kernel
theorem dX3_open_58 : decode cX3_open 58 = .ok (.dup2, 1) := by decide +kernel
theorem dX3_open_59 : decode cX3_open 59 = .ok (.iaload, 1) := by decide +kernel
theorem dX3_open_60 : decode cX3_open 60 = .ok (.iconst 1, 1) := by decide +kernel
theorem dX3_open_61 : decode cX3_open 61 = .ok (.iadd, 1) := by decide +kernel
theorem dX3_open_62 : decode cX3_open 62 = .ok (.iastore, 1) := by decide +kernel
theorem dX3_open_63 : decode cX3_open 63 = .ok (.return_, 1) := by decide +kernel
set_option maxRecDepth 20000 in
theorem ggX3_close_X3_thing : GoodIn wsX3_close wsX3_thing := goodIn_r _ [7, 2, 8, 9, 10, 11, 12, 13, 14, 15, 16, 17, 18] (by decide +kernel) (by decide +kernel)
set_option maxRecDepth 20000 in
theorem gX3_close_X3_thing : GoodIn wsX3_close (wsV RX3 48 RX3 yX3_thing wsX3_thing) := goodIn_app (goodIn_of _ (by decide +kernel)) ggX3_close_X3_thing
theorem dX3_close_0 : decode cX3_close 0 = .ok (.aload_n 0, 1) := by decide +kernel
theorem dX3_close_1 : decode cX3_close 1 = .ok (.iload_n 1, 1) := by decide +kernel
theorem dX3_close_2 : decode cX3_close 2 = .ok (.iload_n 2, 1) := by decide +kernel
theorem dX3_close_3 : decode cX3_close 3 = .ok (.invokevirtual 48, 3) := by decide +kernel
theorem dX3_close_6 : decode cX3_close 6 = .ok (.istore_n 3, 1) := by decide +kernel
theorem dX3_close_7 : decode cX3_close 7 = .ok (.aload_n 0, 1) := by decide +kernel
theorem dX3_close_8 : decode cX3_close 8 = .ok (.getfield 13, 3) := by decide +kernel
theorem dX3_close_11 : decode cX3_close 11 = .ok (.iload_n 1, 1) := by decide +kernel
theorem dX3_close_12 : decode cX3_close 12 = .ok (.dup2, 1) := by decide +kernel
theorem dX3_close_13 : decode cX3_close 13 = .ok (.iaload, 1) := by decide +kernel
theorem dX3_close_14 : decode cX3_close 14 = .ok (.iconst 1, 1) := by decide +kernel
theorem dX3_close_15 : decode cX3_close 15 = .ok (.isub, 1) := by decide +kernel
theorem dX3_close_16 : decode cX3_close 16 = .ok (.iastore, 1) := by decide +kernel
theorem dX3_close_17 : decode cX3_close 17 = .ok (.iload_n 2, 1) := by decide +kernel
theorem dX3_close_18 : decode cX3_close 18 = .ok (.istore 4, 2) := by decide +kernel
theorem dX3_close_20 : decode cX3_close 20 = .ok (.iload 4, 2) := by decide +kernel
theorem dX3_close_22 : decode cX3_close 22 = .ok (.aload_n 0, 1) := by decide +kernel
theorem dX3_close_23 : decode cX3_close 23 = .ok (.getfield 13, 3) := by decide +kernel
theorem dX3_close_26 : decode cX3_close 26 = .ok (.iload_n 1, 1) := by decide +kernel
theorem dX3_close_27 : decode cX3_close 27 = .ok (.iaload, 1) := by decide +kernel
theorem dX3_close_28 : decode cX3_close 28 = .ok (.if_icmp .ge 30, 3) := by decide +kernel
theorem dX3_close_31 : decode cX3_close 31 = .ok (.aload_n 0, 1) := by decide +kernel
theorem dX3_close_32 : decode cX3_close 32 = .ok (.getfield 7, 3) := by decide +kernel
theorem dX3_close_35 : decode cX3_close 35 = .ok (.bipush 64, 2) := by decide +kernel
theorem dX3_close_37 : decode cX3_close 37 = .ok (.iload_n 1, 1) := by decide +kernel
theorem dX3_close_38 : decode cX3_close 38 = .ok (.imul, 1) := by decide +kernel
theorem dX3_close_39 : decode cX3_close 39 = .ok (.iload 4, 2) := by decide +kernel
theorem dX3_close_41 : decode cX3_close 41 = .ok (.iadd, 1) := by decide +kernel
theorem dX3_close_42 : decode cX3_close 42 = .ok (.aload_n 0, 1) := by decide +kernel
theorem dX3_close_43 : decode cX3_close 43 = .ok (.iload_n 1, 1) := by decide +kernel
theorem dX3_close_44 : decode cX3_close 44 = .ok (.iload 4, 2) := by decide +kernel
theorem dX3_close_46 : decode cX3_close 46 = .ok (.iconst 1, 1) := by decide +kernel
theorem dX3_close_47 : decode cX3_close 47 = .ok (.iadd, 1) := by decide +kernel
theorem dX3_close_48 : decode cX3_close 48 = .ok (.invokevirtual 48, 3) := by decide +kernel
theorem dX3_close_51 : decode cX3_close 51 = .ok (.iastore, 1) := by decide +kernel
theorem dX3_close_52 : decode cX3_close 52 = .ok (.iinc 4 1, 3) := by decide +kernel
theorem dX3_close_55 : decode cX3_close 55 = .ok (.goto (-35), 3) := by decide +kernel
theorem dX3_close_58 : decode cX3_close 58 = .ok (.iload_n 3, 1) := by decide +kernel
theorem dX3_close_59 : decode cX3_close 59 = .ok (.ireturn, 1) := by decide +kernel
set_option maxRecDepth 20000 in
theorem ggX3_placeBy_X3_thing : GoodIn wsX3_placeBy wsX3_thing := goodIn_r _ [6, 7, 8, 9, 10, 11, 12, 13, 14, 15, 16, 17, 18] (by decide +kernel) (by decide +kernel)
set_option maxRecDepth 20000 in
theorem gX3_placeBy_X3_thing : GoodIn wsX3_placeBy (wsV RX3 48 RX3 yX3_thing wsX3_thing) := goodIn_app (goodIn_of _ (by decide +kernel)) ggX3_placeBy_X3_thing
theorem dX3_placeBy_0 : decode cX3_placeBy 0 = .ok (.iconst (-1), 1) := by decide +kernel
theorem dX3_placeBy_1 : decode cX3_placeBy 1 = .ok (.istore 4, 2) := by decide +kernel
theorem dX3_placeBy_3 : decode cX3_placeBy 3 = .ok (.iconst 0, 1) := by decide +kernel
theorem dX3_placeBy_4 : decode cX3_placeBy 4 = .ok (.istore 5, 2) := by decide +kernel
theorem dX3_placeBy_6 : decode cX3_placeBy 6 = .ok (.iload 5, 2) := by decide +kernel
theorem dX3_placeBy_8 : decode cX3_placeBy 8 = .ok (.aload_n 0, 1) := by decide +kernel
theorem dX3_placeBy_9 : decode cX3_placeBy 9 = .ok (.getfield 13, 3) := by decide +kernel
theorem dX3_placeBy_12 : decode cX3_placeBy 12 = .ok (.iload_n 1, 1) := by decide +kernel
theorem dX3_placeBy_13 : decode cX3_placeBy 13 = .ok (.iaload, 1) := by decide +kernel
theorem dX3_placeBy_14 : decode cX3_placeBy 14 = .ok (.if_icmp .ge 42, 3) := by decide +kernel
theorem dX3_placeBy_17 : decode cX3_placeBy 17 = .ok (.aload_n 0, 1) := by decide +kernel
theorem dX3_placeBy_18 : decode cX3_placeBy 18 = .ok (.iload_n 1, 1) := by decide +kernel
theorem dX3_placeBy_19 : decode cX3_placeBy 19 = .ok (.iload 5, 2) := by decide +kernel
theorem dX3_placeBy_21 : decode cX3_placeBy 21 = .ok (.invokevirtual 48, 3) := by decide +kernel
theorem dX3_placeBy_24 : decode cX3_placeBy 24 = .ok (.bipush 10, 2) := by decide +kernel
theorem dX3_placeBy_26 : decode cX3_placeBy 26 = .ok (.irem, 1) := by decide +kernel
theorem dX3_placeBy_27 : decode cX3_placeBy 27 = .ok (.iload_n 2, 1) := by decide +kernel
theorem dX3_placeBy_28 : decode cX3_placeBy 28 = .ok (.if_icmp .ne 18, 3) := by decide +kernel
theorem dX3_placeBy_31 : decode cX3_placeBy 31 = .ok (.iload_n 3, 1) := by decide +kernel
theorem dX3_placeBy_32 : decode cX3_placeBy 32 = .ok (.ifCond .ne 9, 3) := by decide +kernel
theorem dX3_placeBy_35 : decode cX3_placeBy 35 = .ok (.iload 4, 2) := by decide +kernel
theorem dX3_placeBy_37 : decode cX3_placeBy 37 = .ok (.iconst (-1), 1) := by decide +kernel
theorem dX3_placeBy_38 : decode cX3_placeBy 38 = .ok (.if_icmp .ne 8, 3) := by decide +kernel
theorem dX3_placeBy_41 : decode cX3_placeBy 41 = .ok (.iload 5, 2) := by decide +kernel
theorem dX3_placeBy_43 : decode cX3_placeBy 43 = .ok (.goto 5, 3) := by decide +kernel
theorem dX3_placeBy_46 : decode cX3_placeBy 46 = .ok (.iload 4, 2) := by decide +kernel
theorem dX3_placeBy_48 : decode cX3_placeBy 48 = .ok (.istore 4, 2) := by decide +kernel
theorem dX3_placeBy_50 : decode cX3_placeBy 50 = .ok (.iinc 5 1, 3) := by decide +kernel
theorem dX3_placeBy_53 : decode cX3_placeBy 53 = .ok (.goto (-47), 3) := by decide +kernel
theorem dX3_placeBy_56 : decode cX3_placeBy 56 = .ok (.iload 4, 2) := by decide +kernel
theorem dX3_placeBy_58 : decode cX3_placeBy 58 = .ok (.ireturn, 1) := by decide +kernel
set_option maxRecDepth 20000 in
theorem ggX3_put_X3_isRow : GoodIn wsX3_put wsX3_isRow := goodIn_r _ [5, 6, 7, 4, 8] (by decide +kernel) (by decide +kernel)
set_option maxRecDepth 20000 in
theorem gX3_put_X3_isRow : GoodIn wsX3_put (va_wsS RX3 52 yX3_isRow wsX3_isRow) := goodIn_app (goodIn_of _ (by decide +kernel)) ggX3_put_X3_isRow
set_option maxRecDepth 20000 in
theorem ggX3_put_X3_isName : GoodIn wsX3_put wsX3_isName := goodIn_r _ [11, 6, 7, 4, 8] (by decide +kernel) (by decide +kernel)
set_option maxRecDepth 20000 in
theorem gX3_put_X3_isName : GoodIn wsX3_put (va_wsS RX3 56 yX3_isName wsX3_isName) := goodIn_app (goodIn_of _ (by decide +kernel)) ggX3_put_X3_isName
set_option maxRecDepth 20000 in
theorem ggX3_put_X3_in : GoodIn wsX3_put wsX3_in := goodIn_r _ [8] (by decide +kernel) (by decide +kernel)
set_option maxRecDepth 20000 in
theorem gX3_put_X3_in : GoodIn wsX3_put (va_wsS RX3 40 yX3_in wsX3_in) := goodIn_app (goodIn_of _ (by decide +kernel)) ggX3_put_X3_in
set_option maxRecDepth 20000 in
theorem ggX3_put_X3_make : GoodIn wsX3_put wsX3_make := goodIn_r _ [15, 16, 32, 33, 34, 35, 36, 37, 38, 39, 40, 41, 42] (by decide +kernel) (by decide +kernel)
set_option maxRecDepth 20000 in
theorem gX3_put_X3_make : GoodIn wsX3_put (wsV RX3 59 RX3 yX3_make wsX3_make) := goodIn_app (goodIn_of _ (by decide +kernel)) ggX3_put_X3_make
set_option maxRecDepth 20000 in
theorem ggX3_put_X3_open : GoodIn wsX3_put wsX3_open := goodIn_r _ [20, 1, 21, 22, 23, 24, 4, 25, 32, 33, 34, 35, 36, 37, 38, 39, 40, 41, 42] (by decide +kernel) (by decide +kernel)
set_option maxRecDepth 20000 in
theorem gX3_put_X3_open : GoodIn wsX3_put (wsV RX3 63 RX3 yX3_open wsX3_open) := goodIn_app (goodIn_of _ (by decide +kernel)) ggX3_put_X3_open
set_option maxRecDepth 20000 in
theorem ggX3_put_X3_age : GoodIn wsX3_put wsX3_age := goodIn_r _ [29, 30, 31, 32, 33, 34, 35, 36, 37, 38, 39, 40, 41, 42] (by decide +kernel) (by decide +kernel)
set_option maxRecDepth 20000 in
theorem gX3_put_X3_age : GoodIn wsX3_put (wsV RX3 67 RX3 yX3_age wsX3_age) := goodIn_app (goodIn_of _ (by decide +kernel)) ggX3_put_X3_age
theorem dX3_put_0 : decode cX3_put 0 = .ok (.iload_n 1, 1) := by decide +kernel
theorem dX3_put_1 : decode cX3_put 1 = .ok (.invokestatic 52, 3) := by decide +kernel
theorem dX3_put_4 : decode cX3_put 4 = .ok (.ifCond .eq 20, 3) := by decide +kernel
theorem dX3_put_7 : decode cX3_put 7 = .ok (.iload_n 2, 1) := by decide +kernel
theorem dX3_put_8 : decode cX3_put 8 = .ok (.invokestatic 56, 3) := by decide +kernel
theorem dX3_put_11 : decode cX3_put 11 = .ok (.ifCond .eq 13, 3) := by decide +kernel
theorem dX3_put_14 : decode cX3_put 14 = .ok (.iload 4, 2) := by decide +kernel
theorem dX3_put_16 : decode cX3_put 16 = .ok (.iconst 0, 1) := by decide +kernel
theorem dX3_put_17 : decode cX3_put 17 = .ok (.iconst 2, 1) := by decide +kernel
theorem dX3_put_18 : decode cX3_put 18 = .ok (.invokestatic 40, 3) := by decide +kernel
theorem dX3_put_21 : decode cX3_put 21 = .ok (.ifCond .ne 5, 3) := by decide +kernel
theorem dX3_put_24 : decode cX3_put 24 = .ok (.iconst (-1), 1) := by decide +kernel
theorem dX3_put_25 : decode cX3_put 25 = .ok (.ireturn, 1) := by decide +kernel
theorem dX3_put_26 : decode cX3_put 26 = .ok (.aload_n 0, 1) := by decide +kernel
theorem dX3_put_27 : decode cX3_put 27 = .ok (.getfield 13, 3) := by decide +kernel
theorem dX3_put_30 : decode cX3_put 30 = .ok (.iload_n 1, 1) := by decide +kernel
theorem dX3_put_31 : decode cX3_put 31 = .ok (.iaload, 1) := by decide +kernel
theorem dX3_put_32 : decode cX3_put 32 = .ok (.bipush 60, 2) := by decide +kernel
theorem dX3_put_34 : decode cX3_put 34 = .ok (.if_icmp .ne 6, 3) := by decide +kernel
theorem dX3_put_37 : decode cX3_put 37 = .ok (.bipush (-3), 2) := by decide +kernel
theorem dX3_put_39 : decode cX3_put 39 = .ok (.ireturn, 1) := by decide +kernel
theorem dX3_put_40 : decode cX3_put 40 = .ok (.aload_n 0, 1) := by decide +kernel
theorem dX3_put_41 : decode cX3_put 41 = .ok (.iload_n 1, 1) := by decide +kernel
theorem dX3_put_42 : decode cX3_put 42 = .ok (.iload_n 3, 1) := by decide +kernel
theorem dX3_put_43 : decode cX3_put 43 = .ok (.ifCond .eq 12, 3) := by decide +kernel
theorem dX3_put_46 : decode cX3_put 46 = .ok (.aload_n 0, 1) := by decide +kernel
theorem dX3_put_47 : decode cX3_put 47 = .ok (.getfield 13, 3) := by decide +kernel
theorem dX3_put_50 : decode cX3_put 50 = .ok (.iload_n 1, 1) := by decide +kernel
theorem dX3_put_51 : decode cX3_put 51 = .ok (.iaload, 1) := by decide +kernel
theorem dX3_put_52 : decode cX3_put 52 = .ok (.goto 4, 3) := by decide +kernel
theorem dX3_put_55 : decode cX3_put 55 = .ok (.iconst 0, 1) := by decide +kernel
theorem dX3_put_56 : decode cX3_put 56 = .ok (.aload_n 0, 1) := by decide +kernel
theorem dX3_put_57 : decode cX3_put 57 = .ok (.iload_n 2, 1) := by decide +kernel
theorem dX3_put_58 : decode cX3_put 58 = .ok (.invokevirtual 59, 3) := by decide +kernel
theorem dX3_put_61 : decode cX3_put 61 = .ok (.invokevirtual 63, 3) := by decide +kernel
theorem dX3_put_64 : decode cX3_put 64 = .ok (.aload_n 0, 1) := by decide +kernel
theorem dX3_put_65 : decode cX3_put 65 = .ok (.iload_n 1, 1) := by decide +kernel
theorem dX3_put_66 : decode cX3_put 66 = .ok (.iconst (-1), 1) := by decide +kernel
theorem dX3_put_67 : decode cX3_put 67 = .ok (.invokevirtual 67, 3) := by decide +kernel
theorem dX3_put_70 : decode cX3_put 70 = .ok (.aload_n 0, 1) := by decide +kernel
theorem dX3_put_71 : decode cX3_put 71 = .ok (.getfield 13, 3) := by decide +kernel
theorem dX3_put_74 : decode cX3_put 74 = .ok (.iload_n 1, 1) := by decide +kernel
theorem dX3_put_75 : decode cX3_put 75 = .ok (.iaload, 1) := by decide +kernel
theorem dX3_put_76 : decode cX3_put 76 = .ok (.ireturn, 1) := by decide +kernel
set_option maxRecDepth 20000 in
theorem ggX3_end_X3_isRow : GoodIn wsX3_end wsX3_isRow := goodIn_r _ [5, 6, 7, 4, 8] (by decide +kernel) (by decide +kernel)
set_option maxRecDepth 20000 in
theorem gX3_end_X3_isRow : GoodIn wsX3_end (va_wsS RX3 52 yX3_isRow wsX3_isRow) := goodIn_app (goodIn_of _ (by decide +kernel)) ggX3_end_X3_isRow
set_option maxRecDepth 20000 in
theorem ggX3_end_X3_in : GoodIn wsX3_end wsX3_in := goodIn_r _ [8] (by decide +kernel) (by decide +kernel)
set_option maxRecDepth 20000 in
theorem gX3_end_X3_in : GoodIn wsX3_end (va_wsS RX3 40 yX3_in wsX3_in) := goodIn_app (goodIn_of _ (by decide +kernel)) ggX3_end_X3_in
set_option maxRecDepth 20000 in
theorem ggX3_end_X3_refuse : GoodIn wsX3_end wsX3_refuse := goodIn_r _ [12, 13, 19, 20, 21, 22, 23, 24, 25, 26, 27, 28, 29] (by decide +kernel) (by decide +kernel)
set_option maxRecDepth 20000 in
theorem gX3_end_X3_refuse : GoodIn wsX3_end (wsV RX3 71 RX3 yX3_refuse wsX3_refuse) := goodIn_app (goodIn_of _ (by decide +kernel)) ggX3_end_X3_refuse
set_option maxRecDepth 20000 in
theorem ggX3_end_X3_thing : GoodIn wsX3_end wsX3_thing := goodIn_r _ [17, 18, 19, 20, 21, 22, 23, 24, 25, 26, 27, 28, 29] (by decide +kernel) (by decide +kernel)
set_option maxRecDepth 20000 in
theorem gX3_end_X3_thing : GoodIn wsX3_end (wsV RX3 48 RX3 yX3_thing wsX3_thing) := goodIn_app (goodIn_of _ (by decide +kernel)) ggX3_end_X3_thing
theorem dX3_end_0 : decode cX3_end 0 = .ok (.iload_n 1, 1) := by decide +kernel
theorem dX3_end_1 : decode cX3_end 1 = .ok (.invokestatic 52, 3) := by decide +kernel
theorem dX3_end_4 : decode cX3_end 4 = .ok (.ifCond .eq 20, 3) := by decide +kernel
theorem dX3_end_7 : decode cX3_end 7 = .ok (.iload_n 3, 1) := by decide +kernel
theorem dX3_end_8 : decode cX3_end 8 = .ok (.iconst 0, 1) := by decide +kernel
theorem dX3_end_9 : decode cX3_end 9 = .ok (.iload_n 2, 1) := by decide +kernel
theorem dX3_end_10 : decode cX3_end 10 = .ok (.ifCond .eq 7, 3) := by decide +kernel
theorem dX3_end_13 : decode cX3_end 13 = .ok (.iconst 1, 1) := by decide +kernel
theorem dX3_end_14 : decode cX3_end 14 = .ok (.goto 4, 3) := by decide +kernel
theorem dX3_end_17 : decode cX3_end 17 = .ok (.iconst 3, 1) := by decide +kernel
theorem dX3_end_18 : decode cX3_end 18 = .ok (.invokestatic 40, 3) := by decide +kernel
theorem dX3_end_21 : decode cX3_end 21 = .ok (.ifCond .ne 5, 3) := by decide +kernel
theorem dX3_end_24 : decode cX3_end 24 = .ok (.iconst (-1), 1) := by decide +kernel
theorem dX3_end_25 : decode cX3_end 25 = .ok (.ireturn, 1) := by decide +kernel
theorem dX3_end_26 : decode cX3_end 26 = .ok (.aload_n 0, 1) := by decide +kernel
theorem dX3_end_27 : decode cX3_end 27 = .ok (.getfield 13, 3) := by decide +kernel
theorem dX3_end_30 : decode cX3_end 30 = .ok (.iload_n 1, 1) := by decide +kernel
theorem dX3_end_31 : decode cX3_end 31 = .ok (.iaload, 1) := by decide +kernel
theorem dX3_end_32 : decode cX3_end 32 = .ok (.ifCond .ne 22, 3) := by decide +kernel
theorem dX3_end_35 : decode cX3_end 35 = .ok (.iload_n 3, 1) := by decide +kernel
theorem dX3_end_36 : decode cX3_end 36 = .ok (.iconst 2, 1) := by decide +kernel
theorem dX3_end_37 : decode cX3_end 37 = .ok (.irem, 1) := by decide +kernel
theorem dX3_end_38 : decode cX3_end 38 = .ok (.ifCond .ne 13, 3) := by decide +kernel
theorem dX3_end_41 : decode cX3_end 41 = .ok (.aload_n 0, 1) := by decide +kernel
theorem dX3_end_42 : decode cX3_end 42 = .ok (.iconst 0, 1) := by decide +kernel
theorem dX3_end_43 : decode cX3_end 43 = .ok (.bipush (-6), 2) := by decide +kernel
theorem dX3_end_45 : decode cX3_end 45 = .ok (.invokevirtual 71, 3) := by decide +kernel
theorem dX3_end_48 : decode cX3_end 48 = .ok (.goto 5, 3) := by decide +kernel
theorem dX3_end_51 : decode cX3_end 51 = .ok (.bipush (-6), 2) := by decide +kernel
theorem dX3_end_53 : decode cX3_end 53 = .ok (.ireturn, 1) := by decide +kernel
theorem dX3_end_54 : decode cX3_end 54 = .ok (.aload_n 0, 1) := by decide +kernel
theorem dX3_end_55 : decode cX3_end 55 = .ok (.iload_n 1, 1) := by decide +kernel
theorem dX3_end_56 : decode cX3_end 56 = .ok (.iload_n 2, 1) := by decide +kernel
theorem dX3_end_57 : decode cX3_end 57 = .ok (.ifCond .eq 14, 3) := by decide +kernel
theorem dX3_end_60 : decode cX3_end 60 = .ok (.aload_n 0, 1) := by decide +kernel
theorem dX3_end_61 : decode cX3_end 61 = .ok (.getfield 13, 3) := by decide +kernel
theorem dX3_end_64 : decode cX3_end 64 = .ok (.iload_n 1, 1) := by decide +kernel
theorem dX3_end_65 : decode cX3_end 65 = .ok (.iaload, 1) := by decide +kernel
theorem dX3_end_66 : decode cX3_end 66 = .ok (.iconst 1, 1) := by decide +kernel
theorem dX3_end_67 : decode cX3_end 67 = .ok (.isub, 1) := by decide +kernel
theorem dX3_end_68 : decode cX3_end 68 = .ok (.goto 4, 3) := by decide +kernel
theorem dX3_end_71 : decode cX3_end 71 = .ok (.iconst 0, 1) := by decide +kernel
theorem dX3_end_72 : decode cX3_end 72 = .ok (.invokevirtual 48, 3) := by decide +kernel
theorem dX3_end_75 : decode cX3_end 75 = .ok (.ireturn, 1) := by decide +kernel
set_option maxRecDepth 20000 in
theorem ggX3_take_X3_isRow : GoodIn wsX3_take wsX3_isRow := goodIn_r _ [5, 6, 7, 4, 8] (by decide +kernel) (by decide +kernel)
set_option maxRecDepth 20000 in
theorem gX3_take_X3_isRow : GoodIn wsX3_take (va_wsS RX3 52 yX3_isRow wsX3_isRow) := goodIn_app (goodIn_of _ (by decide +kernel)) ggX3_take_X3_isRow
set_option maxRecDepth 20000 in
theorem ggX3_take_X3_in : GoodIn wsX3_take wsX3_in := goodIn_r _ [8] (by decide +kernel) (by decide +kernel)
set_option maxRecDepth 20000 in
theorem gX3_take_X3_in : GoodIn wsX3_take (va_wsS RX3 40 yX3_in wsX3_in) := goodIn_app (goodIn_of _ (by decide +kernel)) ggX3_take_X3_in
set_option maxRecDepth 20000 in
theorem ggX3_take_X3_refuse : GoodIn wsX3_take wsX3_refuse := goodIn_r _ [12, 13, 29, 30, 31, 32, 33, 34, 35, 36, 37, 38, 39] (by decide +kernel) (by decide +kernel)
set_option maxRecDepth 20000 in
theorem gX3_take_X3_refuse : GoodIn wsX3_take (wsV RX3 71 RX3 yX3_refuse wsX3_refuse) := goodIn_app (goodIn_of _ (by decide +kernel)) ggX3_take_X3_refuse
set_option maxRecDepth 20000 in
theorem ggX3_take_X3_age : GoodIn wsX3_take wsX3_age := goodIn_r _ [17, 18, 19, 29, 30, 31, 32, 33, 34, 35, 36, 37, 38, 39] (by decide +kernel) (by decide +kernel)
set_option maxRecDepth 20000 in
theorem gX3_take_X3_age : GoodIn wsX3_take (wsV RX3 67 RX3 yX3_age wsX3_age) := goodIn_app (goodIn_of _ (by decide +kernel)) ggX3_take_X3_age
set_option maxRecDepth 20000 in
theorem ggX3_take_X3_close : GoodIn wsX3_take wsX3_close := goodIn_r _ [23, 1, 24, 25, 26, 27, 4, 28, 29, 30, 31, 32, 33, 34, 35, 36, 37, 38, 39] (by decide +kernel) (by decide +kernel)
set_option maxRecDepth 20000 in
theorem gX3_take_X3_close : GoodIn wsX3_take (wsV RX3 74 RX3 yX3_close wsX3_close) := goodIn_app (goodIn_of _ (by decide +kernel)) ggX3_take_X3_close
theorem dX3_take_0 : decode cX3_take 0 = .ok (.iload_n 1, 1) := by decide +kernel
theorem dX3_take_1 : decode cX3_take 1 = .ok (.invokestatic 52, 3) := by decide +kernel
theorem dX3_take_4 : decode cX3_take 4 = .ok (.ifCond .eq 20, 3) := by decide +kernel
theorem dX3_take_7 : decode cX3_take 7 = .ok (.iload_n 3, 1) := by decide +kernel
theorem dX3_take_8 : decode cX3_take 8 = .ok (.iconst 0, 1) := by decide +kernel
theorem dX3_take_9 : decode cX3_take 9 = .ok (.iload_n 2, 1) := by decide +kernel
theorem dX3_take_10 : decode cX3_take 10 = .ok (.ifCond .eq 7, 3) := by decide +kernel
theorem dX3_take_13 : decode cX3_take 13 = .ok (.iconst 1, 1) := by decide +kernel
theorem dX3_take_14 : decode cX3_take 14 = .ok (.goto 4, 3) := by decide +kernel
theorem dX3_take_17 : decode cX3_take 17 = .ok (.iconst 4, 1) := by decide +kernel
theorem dX3_take_18 : decode cX3_take 18 = .ok (.invokestatic 40, 3) := by decide +kernel
theorem dX3_take_21 : decode cX3_take 21 = .ok (.ifCond .ne 5, 3) := by decide +kernel
theorem dX3_take_24 : decode cX3_take 24 = .ok (.iconst (-1), 1) := by decide +kernel
theorem dX3_take_25 : decode cX3_take 25 = .ok (.ireturn, 1) := by decide +kernel
theorem dX3_take_26 : decode cX3_take 26 = .ok (.aload_n 0, 1) := by decide +kernel
theorem dX3_take_27 : decode cX3_take 27 = .ok (.getfield 13, 3) := by decide +kernel
theorem dX3_take_30 : decode cX3_take 30 = .ok (.iload_n 1, 1) := by decide +kernel
theorem dX3_take_31 : decode cX3_take 31 = .ok (.iaload, 1) := by decide +kernel
theorem dX3_take_32 : decode cX3_take 32 = .ok (.ifCond .ne 22, 3) := by decide +kernel
theorem dX3_take_35 : decode cX3_take 35 = .ok (.iload_n 3, 1) := by decide +kernel
theorem dX3_take_36 : decode cX3_take 36 = .ok (.iconst 2, 1) := by decide +kernel
theorem dX3_take_37 : decode cX3_take 37 = .ok (.irem, 1) := by decide +kernel
theorem dX3_take_38 : decode cX3_take 38 = .ok (.ifCond .ne 13, 3) := by decide +kernel
theorem dX3_take_41 : decode cX3_take 41 = .ok (.aload_n 0, 1) := by decide +kernel
theorem dX3_take_42 : decode cX3_take 42 = .ok (.iconst 0, 1) := by decide +kernel
theorem dX3_take_43 : decode cX3_take 43 = .ok (.bipush (-6), 2) := by decide +kernel
theorem dX3_take_45 : decode cX3_take 45 = .ok (.invokevirtual 71, 3) := by decide +kernel
theorem dX3_take_48 : decode cX3_take 48 = .ok (.goto 5, 3) := by decide +kernel
theorem dX3_take_51 : decode cX3_take 51 = .ok (.bipush (-6), 2) := by decide +kernel
theorem dX3_take_53 : decode cX3_take 53 = .ok (.ireturn, 1) := by decide +kernel
theorem dX3_take_54 : decode cX3_take 54 = .ok (.aload_n 0, 1) := by decide +kernel
theorem dX3_take_55 : decode cX3_take 55 = .ok (.iload_n 1, 1) := by decide +kernel
theorem dX3_take_56 : decode cX3_take 56 = .ok (.iconst (-1), 1) := by decide +kernel
theorem dX3_take_57 : decode cX3_take 57 = .ok (.invokevirtual 67, 3) := by decide +kernel
theorem dX3_take_60 : decode cX3_take 60 = .ok (.aload_n 0, 1) := by decide +kernel
theorem dX3_take_61 : decode cX3_take 61 = .ok (.iload_n 1, 1) := by decide +kernel
theorem dX3_take_62 : decode cX3_take 62 = .ok (.iload_n 2, 1) := by decide +kernel
theorem dX3_take_63 : decode cX3_take 63 = .ok (.ifCond .eq 14, 3) := by decide +kernel
theorem dX3_take_66 : decode cX3_take 66 = .ok (.aload_n 0, 1) := by decide +kernel
theorem dX3_take_67 : decode cX3_take 67 = .ok (.getfield 13, 3) := by decide +kernel
theorem dX3_take_70 : decode cX3_take 70 = .ok (.iload_n 1, 1) := by decide +kernel
theorem dX3_take_71 : decode cX3_take 71 = .ok (.iaload, 1) := by decide +kernel
theorem dX3_take_72 : decode cX3_take 72 = .ok (.iconst 1, 1) := by decide +kernel
theorem dX3_take_73 : decode cX3_take 73 = .ok (.isub, 1) := by decide +kernel
theorem dX3_take_74 : decode cX3_take 74 = .ok (.goto 4, 3) := by decide +kernel
theorem dX3_take_77 : decode cX3_take 77 = .ok (.iconst 0, 1) := by decide +kernel
theorem dX3_take_78 : decode cX3_take 78 = .ok (.invokevirtual 74, 3) := by decide +kernel
theorem dX3_take_81 : decode cX3_take 81 = .ok (.ireturn, 1) := by decide +kernel
set_option maxRecDepth 20000 in
theorem ggX3_at_X3_isRow : GoodIn wsX3_at wsX3_isRow := goodIn_r _ [5, 6, 7, 4, 8] (by decide +kernel) (by decide +kernel)
set_option maxRecDepth 20000 in
theorem gX3_at_X3_isRow : GoodIn wsX3_at (va_wsS RX3 52 yX3_isRow wsX3_isRow) := goodIn_app (goodIn_of _ (by decide +kernel)) ggX3_at_X3_isRow
set_option maxRecDepth 20000 in
theorem ggX3_at_X3_in : GoodIn wsX3_at wsX3_in := goodIn_r _ [8] (by decide +kernel) (by decide +kernel)
set_option maxRecDepth 20000 in
theorem gX3_at_X3_in : GoodIn wsX3_at (va_wsS RX3 40 yX3_in wsX3_in) := goodIn_app (goodIn_of _ (by decide +kernel)) ggX3_at_X3_in
set_option maxRecDepth 20000 in
theorem ggX3_at_X3_thing : GoodIn wsX3_at wsX3_thing := goodIn_r _ [12, 13, 19, 20, 21, 22, 23, 24, 25, 26, 27, 28, 29] (by decide +kernel) (by decide +kernel)
set_option maxRecDepth 20000 in
theorem gX3_at_X3_thing : GoodIn wsX3_at (wsV RX3 48 RX3 yX3_thing wsX3_thing) := goodIn_app (goodIn_of _ (by decide +kernel)) ggX3_at_X3_thing
set_option maxRecDepth 20000 in
theorem ggX3_at_X3_refuse : GoodIn wsX3_at wsX3_refuse := goodIn_r _ [17, 18, 19, 20, 21, 22, 23, 24, 25, 26, 27, 28, 29] (by decide +kernel) (by decide +kernel)
set_option maxRecDepth 20000 in
theorem gX3_at_X3_refuse : GoodIn wsX3_at (wsV RX3 71 RX3 yX3_refuse wsX3_refuse) := goodIn_app (goodIn_of _ (by decide +kernel)) ggX3_at_X3_refuse
theorem dX3_at_0 : decode cX3_at 0 = .ok (.iload_n 1, 1) := by decide +kernel
theorem dX3_at_1 : decode cX3_at 1 = .ok (.invokestatic 52, 3) := by decide +kernel
theorem dX3_at_4 : decode cX3_at 4 = .ok (.ifCond .ne 5, 3) := by decide +kernel
theorem dX3_at_7 : decode cX3_at 7 = .ok (.iconst (-1), 1) := by decide +kernel
theorem dX3_at_8 : decode cX3_at 8 = .ok (.ireturn, 1) := by decide +kernel
theorem dX3_at_9 : decode cX3_at 9 = .ok (.iload_n 2, 1) := by decide +kernel
theorem dX3_at_10 : decode cX3_at 10 = .ok (.iconst 0, 1) := by decide +kernel
theorem dX3_at_11 : decode cX3_at 11 = .ok (.aload_n 0, 1) := by decide +kernel
theorem dX3_at_12 : decode cX3_at 12 = .ok (.getfield 13, 3) := by decide +kernel
theorem dX3_at_15 : decode cX3_at 15 = .ok (.iload_n 1, 1) := by decide +kernel
theorem dX3_at_16 : decode cX3_at 16 = .ok (.iaload, 1) := by decide +kernel
theorem dX3_at_17 : decode cX3_at 17 = .ok (.iconst 1, 1) := by decide +kernel
theorem dX3_at_18 : decode cX3_at 18 = .ok (.isub, 1) := by decide +kernel
theorem dX3_at_19 : decode cX3_at 19 = .ok (.invokestatic 40, 3) := by decide +kernel
theorem dX3_at_22 : decode cX3_at 22 = .ok (.ifCond .eq 12, 3) := by decide +kernel
theorem dX3_at_25 : decode cX3_at 25 = .ok (.aload_n 0, 1) := by decide +kernel
theorem dX3_at_26 : decode cX3_at 26 = .ok (.iload_n 1, 1) := by decide +kernel
theorem dX3_at_27 : decode cX3_at 27 = .ok (.iload_n 2, 1) := by decide +kernel
theorem dX3_at_28 : decode cX3_at 28 = .ok (.invokevirtual 48, 3) := by decide +kernel
theorem dX3_at_31 : decode cX3_at 31 = .ok (.goto 10, 3) := by decide +kernel
theorem dX3_at_34 : decode cX3_at 34 = .ok (.aload_n 0, 1) := by decide +kernel
theorem dX3_at_35 : decode cX3_at 35 = .ok (.iconst 1, 1) := by decide +kernel
theorem dX3_at_36 : decode cX3_at 36 = .ok (.bipush (-5), 2) := by decide +kernel
theorem dX3_at_38 : decode cX3_at 38 = .ok (.invokevirtual 71, 3) := by decide +kernel
theorem dX3_at_41 : decode cX3_at 41 = .ok (.ireturn, 1) := by decide +kernel
set_option maxRecDepth 20000 in
theorem ggX3_lay_X3_isRow : GoodIn wsX3_lay wsX3_isRow := goodIn_r _ [6, 7, 8, 5, 9] (by decide +kernel) (by decide +kernel)
set_option maxRecDepth 20000 in
theorem gX3_lay_X3_isRow : GoodIn wsX3_lay (va_wsS RX3 52 yX3_isRow wsX3_isRow) := goodIn_app (goodIn_of _ (by decide +kernel)) ggX3_lay_X3_isRow
set_option maxRecDepth 20000 in
theorem ggX3_lay_X3_isName : GoodIn wsX3_lay wsX3_isName := goodIn_r _ [12, 7, 8, 5, 9] (by decide +kernel) (by decide +kernel)
set_option maxRecDepth 20000 in
theorem gX3_lay_X3_isName : GoodIn wsX3_lay (va_wsS RX3 56 yX3_isName wsX3_isName) := goodIn_app (goodIn_of _ (by decide +kernel)) ggX3_lay_X3_isName
set_option maxRecDepth 20000 in
theorem ggX3_lay_X3_in : GoodIn wsX3_lay wsX3_in := goodIn_r _ [9] (by decide +kernel) (by decide +kernel)
set_option maxRecDepth 20000 in
theorem gX3_lay_X3_in : GoodIn wsX3_lay (va_wsS RX3 40 yX3_in wsX3_in) := goodIn_app (goodIn_of _ (by decide +kernel)) ggX3_lay_X3_in
set_option maxRecDepth 20000 in
theorem ggX3_lay_X3_refuse : GoodIn wsX3_lay wsX3_refuse := goodIn_r _ [16, 17, 27, 28, 29, 30, 31, 32, 33, 34, 35, 36, 37] (by decide +kernel) (by decide +kernel)
set_option maxRecDepth 20000 in
theorem gX3_lay_X3_refuse : GoodIn wsX3_lay (wsV RX3 71 RX3 yX3_refuse wsX3_refuse) := goodIn_app (goodIn_of _ (by decide +kernel)) ggX3_lay_X3_refuse
set_option maxRecDepth 20000 in
theorem ggX3_lay_X3_thing : GoodIn wsX3_lay wsX3_thing := goodIn_r _ [21, 2, 27, 28, 29, 30, 31, 32, 33, 34, 35, 36, 37] (by decide +kernel) (by decide +kernel)
set_option maxRecDepth 20000 in
theorem gX3_lay_X3_thing : GoodIn wsX3_lay (wsV RX3 48 RX3 yX3_thing wsX3_thing) := goodIn_app (goodIn_of _ (by decide +kernel)) ggX3_lay_X3_thing
set_option maxRecDepth 20000 in
theorem ggX3_lay_X3_make : GoodIn wsX3_lay wsX3_make := goodIn_r _ [25, 26, 27, 28, 29, 30, 31, 32, 33, 34, 35, 36, 37] (by decide +kernel) (by decide +kernel)
set_option maxRecDepth 20000 in
theorem gX3_lay_X3_make : GoodIn wsX3_lay (wsV RX3 59 RX3 yX3_make wsX3_make) := goodIn_app (goodIn_of _ (by decide +kernel)) ggX3_lay_X3_make
theorem dX3_lay_0 : decode cX3_lay 0 = .ok (.iload_n 1, 1) := by decide +kernel
theorem dX3_lay_1 : decode cX3_lay 1 = .ok (.invokestatic 52, 3) := by decide +kernel
theorem dX3_lay_4 : decode cX3_lay 4 = .ok (.ifCond .eq 10, 3) := by decide +kernel
theorem dX3_lay_7 : decode cX3_lay 7 = .ok (.iload_n 3, 1) := by decide +kernel
theorem dX3_lay_8 : decode cX3_lay 8 = .ok (.invokestatic 56, 3) := by decide +kernel
theorem dX3_lay_11 : decode cX3_lay 11 = .ok (.ifCond .ne 5, 3) := by decide +kernel
theorem dX3_lay_14 : decode cX3_lay 14 = .ok (.iconst (-1), 1) := by decide +kernel
theorem dX3_lay_15 : decode cX3_lay 15 = .ok (.ireturn, 1) := by decide +kernel
theorem dX3_lay_16 : decode cX3_lay 16 = .ok (.iload_n 2, 1) := by decide +kernel
theorem dX3_lay_17 : decode cX3_lay 17 = .ok (.iconst 0, 1) := by decide +kernel
theorem dX3_lay_18 : decode cX3_lay 18 = .ok (.aload_n 0, 1) := by decide +kernel
theorem dX3_lay_19 : decode cX3_lay 19 = .ok (.getfield 13, 3) := by decide +kernel
theorem dX3_lay_22 : decode cX3_lay 22 = .ok (.iload_n 1, 1) := by decide +kernel
theorem dX3_lay_23 : decode cX3_lay 23 = .ok (.iaload, 1) := by decide +kernel
theorem dX3_lay_24 : decode cX3_lay 24 = .ok (.iconst 1, 1) := by decide +kernel
theorem dX3_lay_25 : decode cX3_lay 25 = .ok (.isub, 1) := by decide +kernel
theorem dX3_lay_26 : decode cX3_lay 26 = .ok (.invokestatic 40, 3) := by decide +kernel
theorem dX3_lay_29 : decode cX3_lay 29 = .ok (.ifCond .ne 11, 3) := by decide +kernel
theorem dX3_lay_32 : decode cX3_lay 32 = .ok (.aload_n 0, 1) := by decide +kernel
theorem dX3_lay_33 : decode cX3_lay 33 = .ok (.iconst 1, 1) := by decide +kernel
theorem dX3_lay_34 : decode cX3_lay 34 = .ok (.bipush (-5), 2) := by decide +kernel
theorem dX3_lay_36 : decode cX3_lay 36 = .ok (.invokevirtual 71, 3) := by decide +kernel
theorem dX3_lay_39 : decode cX3_lay 39 = .ok (.ireturn, 1) := by decide +kernel
theorem dX3_lay_40 : decode cX3_lay 40 = .ok (.aload_n 0, 1) := by decide +kernel
theorem dX3_lay_41 : decode cX3_lay 41 = .ok (.iload_n 1, 1) := by decide +kernel
theorem dX3_lay_42 : decode cX3_lay 42 = .ok (.iload_n 2, 1) := by decide +kernel
theorem dX3_lay_43 : decode cX3_lay 43 = .ok (.invokevirtual 48, 3) := by decide +kernel
theorem dX3_lay_46 : decode cX3_lay 46 = .ok (.istore 4, 2) := by decide +kernel
theorem dX3_lay_48 : decode cX3_lay 48 = .ok (.aload_n 0, 1) := by decide +kernel
theorem dX3_lay_49 : decode cX3_lay 49 = .ok (.getfield 7, 3) := by decide +kernel
theorem dX3_lay_52 : decode cX3_lay 52 = .ok (.bipush 64, 2) := by decide +kernel
theorem dX3_lay_54 : decode cX3_lay 54 = .ok (.iload_n 1, 1) := by decide +kernel
theorem dX3_lay_55 : decode cX3_lay 55 = .ok (.imul, 1) := by decide +kernel
theorem dX3_lay_56 : decode cX3_lay 56 = .ok (.iload_n 2, 1) := by decide +kernel
theorem dX3_lay_57 : decode cX3_lay 57 = .ok (.iadd, 1) := by decide +kernel
theorem dX3_lay_58 : decode cX3_lay 58 = .ok (.aload_n 0, 1) := by decide +kernel
theorem dX3_lay_59 : decode cX3_lay 59 = .ok (.iload_n 3, 1) := by decide +kernel
theorem dX3_lay_60 : decode cX3_lay 60 = .ok (.invokevirtual 59, 3) := by decide +kernel
theorem dX3_lay_63 : decode cX3_lay 63 = .ok (.iastore, 1) := by decide +kernel
theorem dX3_lay_64 : decode cX3_lay 64 = .ok (.iload 4, 2) := by decide +kernel
theorem dX3_lay_66 : decode cX3_lay 66 = .ok (.ireturn, 1) := by decide +kernel
set_option maxRecDepth 20000 in
theorem ggX3_insert_X3_isRow : GoodIn wsX3_insert wsX3_isRow := goodIn_r _ [5, 6, 7, 4, 8] (by decide +kernel) (by decide +kernel)
set_option maxRecDepth 20000 in
theorem gX3_insert_X3_isRow : GoodIn wsX3_insert (va_wsS RX3 52 yX3_isRow wsX3_isRow) := goodIn_app (goodIn_of _ (by decide +kernel)) ggX3_insert_X3_isRow
set_option maxRecDepth 20000 in
theorem ggX3_insert_X3_isName : GoodIn wsX3_insert wsX3_isName := goodIn_r _ [11, 6, 7, 4, 8] (by decide +kernel) (by decide +kernel)
set_option maxRecDepth 20000 in
theorem gX3_insert_X3_isName : GoodIn wsX3_insert (va_wsS RX3 56 yX3_isName wsX3_isName) := goodIn_app (goodIn_of _ (by decide +kernel)) ggX3_insert_X3_isName
set_option maxRecDepth 20000 in
theorem ggX3_insert_X3_in : GoodIn wsX3_insert wsX3_in := goodIn_r _ [8] (by decide +kernel) (by decide +kernel)
set_option maxRecDepth 20000 in
theorem gX3_insert_X3_in : GoodIn wsX3_insert (va_wsS RX3 40 yX3_in wsX3_in) := goodIn_app (goodIn_of _ (by decide +kernel)) ggX3_insert_X3_in
set_option maxRecDepth 20000 in
theorem ggX3_insert_X3_refuse : GoodIn wsX3_insert wsX3_refuse := goodIn_r _ [15, 16, 37, 38, 39, 40, 41, 42, 43, 44, 45, 46, 47] (by decide +kernel) (by decide +kernel)
set_option maxRecDepth 20000 in
theorem gX3_insert_X3_refuse : GoodIn wsX3_insert (wsV RX3 71 RX3 yX3_refuse wsX3_refuse) := goodIn_app (goodIn_of _ (by decide +kernel)) ggX3_insert_X3_refuse
set_option maxRecDepth 20000 in
theorem ggX3_insert_X3_make : GoodIn wsX3_insert wsX3_make := goodIn_r _ [20, 21, 37, 38, 39, 40, 41, 42, 43, 44, 45, 46, 47] (by decide +kernel) (by decide +kernel)
set_option maxRecDepth 20000 in
theorem gX3_insert_X3_make : GoodIn wsX3_insert (wsV RX3 59 RX3 yX3_make wsX3_make) := goodIn_app (goodIn_of _ (by decide +kernel)) ggX3_insert_X3_make
set_option maxRecDepth 20000 in
theorem ggX3_insert_X3_open : GoodIn wsX3_insert wsX3_open := goodIn_r _ [25, 1, 26, 27, 28, 29, 4, 30, 37, 38, 39, 40, 41, 42, 43, 44, 45, 46, 47] (by decide +kernel) (by decide +kernel)
set_option maxRecDepth 20000 in
theorem gX3_insert_X3_open : GoodIn wsX3_insert (wsV RX3 63 RX3 yX3_open wsX3_open) := goodIn_app (goodIn_of _ (by decide +kernel)) ggX3_insert_X3_open
set_option maxRecDepth 20000 in
theorem ggX3_insert_X3_age : GoodIn wsX3_insert wsX3_age := goodIn_r _ [34, 35, 36, 37, 38, 39, 40, 41, 42, 43, 44, 45, 46, 47] (by decide +kernel) (by decide +kernel)
set_option maxRecDepth 20000 in
theorem gX3_insert_X3_age : GoodIn wsX3_insert (wsV RX3 67 RX3 yX3_age wsX3_age) := goodIn_app (goodIn_of _ (by decide +kernel)) ggX3_insert_X3_age
theorem dX3_insert_0 : decode cX3_insert 0 = .ok (.iload_n 1, 1) := by decide +kernel
theorem dX3_insert_1 : decode cX3_insert 1 = .ok (.invokestatic 52, 3) := by decide +kernel
theorem dX3_insert_4 : decode cX3_insert 4 = .ok (.ifCond .eq 10, 3) := by decide +kernel
theorem dX3_insert_7 : decode cX3_insert 7 = .ok (.iload_n 3, 1) := by decide +kernel
theorem dX3_insert_8 : decode cX3_insert 8 = .ok (.invokestatic 56, 3) := by decide +kernel
theorem dX3_insert_11 : decode cX3_insert 11 = .ok (.ifCond .ne 5, 3) := by decide +kernel
theorem dX3_insert_14 : decode cX3_insert 14 = .ok (.iconst (-1), 1) := by decide +kernel
theorem dX3_insert_15 : decode cX3_insert 15 = .ok (.ireturn, 1) := by decide +kernel
theorem dX3_insert_16 : decode cX3_insert 16 = .ok (.aload_n 0, 1) := by decide +kernel
theorem dX3_insert_17 : decode cX3_insert 17 = .ok (.getfield 13, 3) := by decide +kernel
theorem dX3_insert_20 : decode cX3_insert 20 = .ok (.iload_n 1, 1) := by decide +kernel
theorem dX3_insert_21 : decode cX3_insert 21 = .ok (.iaload, 1) := by decide +kernel
theorem dX3_insert_22 : decode cX3_insert 22 = .ok (.bipush 60, 2) := by decide +kernel
theorem dX3_insert_24 : decode cX3_insert 24 = .ok (.if_icmp .ne 6, 3) := by decide +kernel
theorem dX3_insert_27 : decode cX3_insert 27 = .ok (.bipush (-3), 2) := by decide +kernel
theorem dX3_insert_29 : decode cX3_insert 29 = .ok (.ireturn, 1) := by decide +kernel
theorem dX3_insert_30 : decode cX3_insert 30 = .ok (.iload_n 2, 1) := by decide +kernel
theorem dX3_insert_31 : decode cX3_insert 31 = .ok (.iconst 0, 1) := by decide +kernel
theorem dX3_insert_32 : decode cX3_insert 32 = .ok (.aload_n 0, 1) := by decide +kernel
theorem dX3_insert_33 : decode cX3_insert 33 = .ok (.getfield 13, 3) := by decide +kernel
theorem dX3_insert_36 : decode cX3_insert 36 = .ok (.iload_n 1, 1) := by decide +kernel
theorem dX3_insert_37 : decode cX3_insert 37 = .ok (.iaload, 1) := by decide +kernel
theorem dX3_insert_38 : decode cX3_insert 38 = .ok (.invokestatic 40, 3) := by decide +kernel
theorem dX3_insert_41 : decode cX3_insert 41 = .ok (.ifCond .ne 11, 3) := by decide +kernel
theorem dX3_insert_44 : decode cX3_insert 44 = .ok (.aload_n 0, 1) := by decide +kernel
theorem dX3_insert_45 : decode cX3_insert 45 = .ok (.iconst 1, 1) := by decide +kernel
theorem dX3_insert_46 : decode cX3_insert 46 = .ok (.bipush (-5), 2) := by decide +kernel
theorem dX3_insert_48 : decode cX3_insert 48 = .ok (.invokevirtual 71, 3) := by decide +kernel
theorem dX3_insert_51 : decode cX3_insert 51 = .ok (.ireturn, 1) := by decide +kernel
theorem dX3_insert_52 : decode cX3_insert 52 = .ok (.aload_n 0, 1) := by decide +kernel
theorem dX3_insert_53 : decode cX3_insert 53 = .ok (.iload_n 1, 1) := by decide +kernel
theorem dX3_insert_54 : decode cX3_insert 54 = .ok (.iload_n 2, 1) := by decide +kernel
theorem dX3_insert_55 : decode cX3_insert 55 = .ok (.aload_n 0, 1) := by decide +kernel
theorem dX3_insert_56 : decode cX3_insert 56 = .ok (.iload_n 3, 1) := by decide +kernel
theorem dX3_insert_57 : decode cX3_insert 57 = .ok (.invokevirtual 59, 3) := by decide +kernel
theorem dX3_insert_60 : decode cX3_insert 60 = .ok (.invokevirtual 63, 3) := by decide +kernel
theorem dX3_insert_63 : decode cX3_insert 63 = .ok (.aload_n 0, 1) := by decide +kernel
theorem dX3_insert_64 : decode cX3_insert 64 = .ok (.iload_n 1, 1) := by decide +kernel
theorem dX3_insert_65 : decode cX3_insert 65 = .ok (.iconst (-1), 1) := by decide +kernel
theorem dX3_insert_66 : decode cX3_insert 66 = .ok (.invokevirtual 67, 3) := by decide +kernel
theorem dX3_insert_69 : decode cX3_insert 69 = .ok (.aload_n 0, 1) := by decide +kernel
theorem dX3_insert_70 : decode cX3_insert 70 = .ok (.getfield 13, 3) := by decide +kernel
theorem dX3_insert_73 : decode cX3_insert 73 = .ok (.iload_n 1, 1) := by decide +kernel
theorem dX3_insert_74 : decode cX3_insert 74 = .ok (.iaload, 1) := by decide +kernel
theorem dX3_insert_75 : decode cX3_insert 75 = .ok (.ireturn, 1) := by decide +kernel
set_option maxRecDepth 20000 in
theorem ggX3_drop_X3_isRow : GoodIn wsX3_drop wsX3_isRow := goodIn_r _ [5, 6, 7, 4, 8] (by decide +kernel) (by decide +kernel)
set_option maxRecDepth 20000 in
theorem gX3_drop_X3_isRow : GoodIn wsX3_drop (va_wsS RX3 52 yX3_isRow wsX3_isRow) := goodIn_app (goodIn_of _ (by decide +kernel)) ggX3_drop_X3_isRow
set_option maxRecDepth 20000 in
theorem ggX3_drop_X3_in : GoodIn wsX3_drop wsX3_in := goodIn_r _ [8] (by decide +kernel) (by decide +kernel)
set_option maxRecDepth 20000 in
theorem gX3_drop_X3_in : GoodIn wsX3_drop (va_wsS RX3 40 yX3_in wsX3_in) := goodIn_app (goodIn_of _ (by decide +kernel)) ggX3_drop_X3_in
set_option maxRecDepth 20000 in
theorem ggX3_drop_X3_refuse : GoodIn wsX3_drop wsX3_refuse := goodIn_r _ [12, 13, 29, 30, 31, 32, 33, 34, 35, 36, 37, 38, 39] (by decide +kernel) (by decide +kernel)
set_option maxRecDepth 20000 in
theorem gX3_drop_X3_refuse : GoodIn wsX3_drop (wsV RX3 71 RX3 yX3_refuse wsX3_refuse) := goodIn_app (goodIn_of _ (by decide +kernel)) ggX3_drop_X3_refuse
set_option maxRecDepth 20000 in
theorem ggX3_drop_X3_age : GoodIn wsX3_drop wsX3_age := goodIn_r _ [17, 18, 19, 29, 30, 31, 32, 33, 34, 35, 36, 37, 38, 39] (by decide +kernel) (by decide +kernel)
set_option maxRecDepth 20000 in
theorem gX3_drop_X3_age : GoodIn wsX3_drop (wsV RX3 67 RX3 yX3_age wsX3_age) := goodIn_app (goodIn_of _ (by decide +kernel)) ggX3_drop_X3_age
set_option maxRecDepth 20000 in
theorem ggX3_drop_X3_close : GoodIn wsX3_drop wsX3_close := goodIn_r _ [23, 1, 24, 25, 26, 27, 4, 28, 29, 30, 31, 32, 33, 34, 35, 36, 37, 38, 39] (by decide +kernel) (by decide +kernel)
set_option maxRecDepth 20000 in
theorem gX3_drop_X3_close : GoodIn wsX3_drop (wsV RX3 74 RX3 yX3_close wsX3_close) := goodIn_app (goodIn_of _ (by decide +kernel)) ggX3_drop_X3_close
theorem dX3_drop_0 : decode cX3_drop 0 = .ok (.iload_n 1, 1) := by decide +kernel
theorem dX3_drop_1 : decode cX3_drop 1 = .ok (.invokestatic 52, 3) := by decide +kernel
theorem dX3_drop_4 : decode cX3_drop 4 = .ok (.ifCond .ne 5, 3) := by decide +kernel
theorem dX3_drop_7 : decode cX3_drop 7 = .ok (.iconst (-1), 1) := by decide +kernel
theorem dX3_drop_8 : decode cX3_drop 8 = .ok (.ireturn, 1) := by decide +kernel
theorem dX3_drop_9 : decode cX3_drop 9 = .ok (.iload_n 2, 1) := by decide +kernel
theorem dX3_drop_10 : decode cX3_drop 10 = .ok (.iconst 0, 1) := by decide +kernel
theorem dX3_drop_11 : decode cX3_drop 11 = .ok (.aload_n 0, 1) := by decide +kernel
theorem dX3_drop_12 : decode cX3_drop 12 = .ok (.getfield 13, 3) := by decide +kernel
theorem dX3_drop_15 : decode cX3_drop 15 = .ok (.iload_n 1, 1) := by decide +kernel
theorem dX3_drop_16 : decode cX3_drop 16 = .ok (.iaload, 1) := by decide +kernel
theorem dX3_drop_17 : decode cX3_drop 17 = .ok (.iconst 1, 1) := by decide +kernel
theorem dX3_drop_18 : decode cX3_drop 18 = .ok (.isub, 1) := by decide +kernel
theorem dX3_drop_19 : decode cX3_drop 19 = .ok (.invokestatic 40, 3) := by decide +kernel
theorem dX3_drop_22 : decode cX3_drop 22 = .ok (.ifCond .ne 11, 3) := by decide +kernel
theorem dX3_drop_25 : decode cX3_drop 25 = .ok (.aload_n 0, 1) := by decide +kernel
theorem dX3_drop_26 : decode cX3_drop 26 = .ok (.iconst 1, 1) := by decide +kernel
theorem dX3_drop_27 : decode cX3_drop 27 = .ok (.bipush (-5), 2) := by decide +kernel
theorem dX3_drop_29 : decode cX3_drop 29 = .ok (.invokevirtual 71, 3) := by decide +kernel
theorem dX3_drop_32 : decode cX3_drop 32 = .ok (.ireturn, 1) := by decide +kernel
theorem dX3_drop_33 : decode cX3_drop 33 = .ok (.aload_n 0, 1) := by decide +kernel
theorem dX3_drop_34 : decode cX3_drop 34 = .ok (.iload_n 1, 1) := by decide +kernel
theorem dX3_drop_35 : decode cX3_drop 35 = .ok (.iconst (-1), 1) := by decide +kernel
theorem dX3_drop_36 : decode cX3_drop 36 = .ok (.invokevirtual 67, 3) := by decide +kernel
theorem dX3_drop_39 : decode cX3_drop 39 = .ok (.aload_n 0, 1) := by decide +kernel
theorem dX3_drop_40 : decode cX3_drop 40 = .ok (.iload_n 1, 1) := by decide +kernel
theorem dX3_drop_41 : decode cX3_drop 41 = .ok (.iload_n 2, 1) := by decide +kernel
theorem dX3_drop_42 : decode cX3_drop 42 = .ok (.invokevirtual 74, 3) := by decide +kernel
theorem dX3_drop_45 : decode cX3_drop 45 = .ok (.ireturn, 1) := by decide +kernel
set_option maxRecDepth 20000 in
theorem ggX3_find_X3_isRow : GoodIn wsX3_find wsX3_isRow := goodIn_r _ [4, 5, 6, 3, 7] (by decide +kernel) (by decide +kernel)
set_option maxRecDepth 20000 in
theorem gX3_find_X3_isRow : GoodIn wsX3_find (va_wsS RX3 52 yX3_isRow wsX3_isRow) := goodIn_app (goodIn_of _ (by decide +kernel)) ggX3_find_X3_isRow
set_option maxRecDepth 20000 in
theorem ggX3_find_X3_isName : GoodIn wsX3_find wsX3_isName := goodIn_r _ [10, 5, 6, 3, 7] (by decide +kernel) (by decide +kernel)
set_option maxRecDepth 20000 in
theorem gX3_find_X3_isName : GoodIn wsX3_find (va_wsS RX3 56 yX3_isName wsX3_isName) := goodIn_app (goodIn_of _ (by decide +kernel)) ggX3_find_X3_isName
set_option maxRecDepth 20000 in
theorem ggX3_find_X3_placeBy : GoodIn wsX3_find wsX3_placeBy := goodIn_r _ [14, 15, 16, 17, 18, 3, 19, 20, 21, 22, 23, 24, 25, 26, 27, 28, 29, 30, 31] (by decide +kernel) (by decide +kernel)
set_option maxRecDepth 20000 in
theorem gX3_find_X3_placeBy : GoodIn wsX3_find (wsV RX3 77 RX3 yX3_placeBy wsX3_placeBy) := goodIn_app (goodIn_of _ (by decide +kernel)) ggX3_find_X3_placeBy
theorem dX3_find_0 : decode cX3_find 0 = .ok (.iload_n 1, 1) := by decide +kernel
theorem dX3_find_1 : decode cX3_find 1 = .ok (.invokestatic 52, 3) := by decide +kernel
theorem dX3_find_4 : decode cX3_find 4 = .ok (.ifCond .eq 10, 3) := by decide +kernel
theorem dX3_find_7 : decode cX3_find 7 = .ok (.iload_n 2, 1) := by decide +kernel
theorem dX3_find_8 : decode cX3_find 8 = .ok (.invokestatic 56, 3) := by decide +kernel
theorem dX3_find_11 : decode cX3_find 11 = .ok (.ifCond .ne 5, 3) := by decide +kernel
theorem dX3_find_14 : decode cX3_find 14 = .ok (.iconst (-1), 1) := by decide +kernel
theorem dX3_find_15 : decode cX3_find 15 = .ok (.ireturn, 1) := by decide +kernel
theorem dX3_find_16 : decode cX3_find 16 = .ok (.aload_n 0, 1) := by decide +kernel
theorem dX3_find_17 : decode cX3_find 17 = .ok (.iload_n 1, 1) := by decide +kernel
theorem dX3_find_18 : decode cX3_find 18 = .ok (.iload_n 2, 1) := by decide +kernel
theorem dX3_find_19 : decode cX3_find 19 = .ok (.iload_n 3, 1) := by decide +kernel
theorem dX3_find_20 : decode cX3_find 20 = .ok (.invokevirtual 77, 3) := by decide +kernel
theorem dX3_find_23 : decode cX3_find 23 = .ok (.istore 4, 2) := by decide +kernel
theorem dX3_find_25 : decode cX3_find 25 = .ok (.iload 4, 2) := by decide +kernel
theorem dX3_find_27 : decode cX3_find 27 = .ok (.iconst (-1), 1) := by decide +kernel
theorem dX3_find_28 : decode cX3_find 28 = .ok (.if_icmp .ne 8, 3) := by decide +kernel
theorem dX3_find_31 : decode cX3_find 31 = .ok (.bipush (-6), 2) := by decide +kernel
theorem dX3_find_33 : decode cX3_find 33 = .ok (.goto 5, 3) := by decide +kernel
theorem dX3_find_36 : decode cX3_find 36 = .ok (.iload 4, 2) := by decide +kernel
theorem dX3_find_38 : decode cX3_find 38 = .ok (.ireturn, 1) := by decide +kernel
set_option maxRecDepth 20000 in
theorem ggX3_has_X3_isRow : GoodIn wsX3_has wsX3_isRow := goodIn_r _ [4, 5, 6, 3, 7] (by decide +kernel) (by decide +kernel)
set_option maxRecDepth 20000 in
theorem gX3_has_X3_isRow : GoodIn wsX3_has (va_wsS RX3 52 yX3_isRow wsX3_isRow) := goodIn_app (goodIn_of _ (by decide +kernel)) ggX3_has_X3_isRow
set_option maxRecDepth 20000 in
theorem ggX3_has_X3_isName : GoodIn wsX3_has wsX3_isName := goodIn_r _ [10, 5, 6, 3, 7] (by decide +kernel) (by decide +kernel)
set_option maxRecDepth 20000 in
theorem gX3_has_X3_isName : GoodIn wsX3_has (va_wsS RX3 56 yX3_isName wsX3_isName) := goodIn_app (goodIn_of _ (by decide +kernel)) ggX3_has_X3_isName
set_option maxRecDepth 20000 in
theorem ggX3_has_X3_placeBy : GoodIn wsX3_has wsX3_placeBy := goodIn_r _ [14, 15, 16, 17, 18, 3, 19, 20, 21, 22, 23, 24, 25, 26, 27, 28, 29, 30, 31] (by decide +kernel) (by decide +kernel)
set_option maxRecDepth 20000 in
theorem gX3_has_X3_placeBy : GoodIn wsX3_has (wsV RX3 77 RX3 yX3_placeBy wsX3_placeBy) := goodIn_app (goodIn_of _ (by decide +kernel)) ggX3_has_X3_placeBy
theorem dX3_has_0 : decode cX3_has 0 = .ok (.iload_n 1, 1) := by decide +kernel
theorem dX3_has_1 : decode cX3_has 1 = .ok (.invokestatic 52, 3) := by decide +kernel
theorem dX3_has_4 : decode cX3_has 4 = .ok (.ifCond .eq 10, 3) := by decide +kernel
theorem dX3_has_7 : decode cX3_has 7 = .ok (.iload_n 2, 1) := by decide +kernel
theorem dX3_has_8 : decode cX3_has 8 = .ok (.invokestatic 56, 3) := by decide +kernel
theorem dX3_has_11 : decode cX3_has 11 = .ok (.ifCond .ne 5, 3) := by decide +kernel
theorem dX3_has_14 : decode cX3_has 14 = .ok (.iconst (-1), 1) := by decide +kernel
theorem dX3_has_15 : decode cX3_has 15 = .ok (.ireturn, 1) := by decide +kernel
theorem dX3_has_16 : decode cX3_has 16 = .ok (.aload_n 0, 1) := by decide +kernel
theorem dX3_has_17 : decode cX3_has 17 = .ok (.iload_n 1, 1) := by decide +kernel
theorem dX3_has_18 : decode cX3_has 18 = .ok (.iload_n 2, 1) := by decide +kernel
theorem dX3_has_19 : decode cX3_has 19 = .ok (.iconst 0, 1) := by decide +kernel
theorem dX3_has_20 : decode cX3_has 20 = .ok (.invokevirtual 77, 3) := by decide +kernel
theorem dX3_has_23 : decode cX3_has 23 = .ok (.iconst (-1), 1) := by decide +kernel
theorem dX3_has_24 : decode cX3_has 24 = .ok (.if_icmp .ne 7, 3) := by decide +kernel
theorem dX3_has_27 : decode cX3_has 27 = .ok (.iconst 0, 1) := by decide +kernel
theorem dX3_has_28 : decode cX3_has 28 = .ok (.goto 4, 3) := by decide +kernel
theorem dX3_has_31 : decode cX3_has 31 = .ok (.iconst 1, 1) := by decide +kernel
theorem dX3_has_32 : decode cX3_has 32 = .ok (.ireturn, 1) := by decide +kernel
set_option maxRecDepth 20000 in
theorem ggX3_lose_X3_isRow : GoodIn wsX3_lose wsX3_isRow := goodIn_r _ [4, 5, 6, 3, 7] (by decide +kernel) (by decide +kernel)
set_option maxRecDepth 20000 in
theorem gX3_lose_X3_isRow : GoodIn wsX3_lose (va_wsS RX3 52 yX3_isRow wsX3_isRow) := goodIn_app (goodIn_of _ (by decide +kernel)) ggX3_lose_X3_isRow
set_option maxRecDepth 20000 in
theorem ggX3_lose_X3_isName : GoodIn wsX3_lose wsX3_isName := goodIn_r _ [10, 5, 6, 3, 7] (by decide +kernel) (by decide +kernel)
set_option maxRecDepth 20000 in
theorem gX3_lose_X3_isName : GoodIn wsX3_lose (va_wsS RX3 56 yX3_isName wsX3_isName) := goodIn_app (goodIn_of _ (by decide +kernel)) ggX3_lose_X3_isName
set_option maxRecDepth 20000 in
theorem ggX3_lose_X3_in : GoodIn wsX3_lose wsX3_in := goodIn_r _ [7] (by decide +kernel) (by decide +kernel)
set_option maxRecDepth 20000 in
theorem gX3_lose_X3_in : GoodIn wsX3_lose (va_wsS RX3 40 yX3_in wsX3_in) := goodIn_app (goodIn_of _ (by decide +kernel)) ggX3_lose_X3_in
set_option maxRecDepth 20000 in
theorem ggX3_lose_X3_placeBy : GoodIn wsX3_lose wsX3_placeBy := goodIn_r _ [14, 15, 16, 17, 18, 3, 19, 20, 31, 32, 33, 34, 35, 36, 37, 38, 39, 40, 41] (by decide +kernel) (by decide +kernel)
set_option maxRecDepth 20000 in
theorem gX3_lose_X3_placeBy : GoodIn wsX3_lose (wsV RX3 77 RX3 yX3_placeBy wsX3_placeBy) := goodIn_app (goodIn_of _ (by decide +kernel)) ggX3_lose_X3_placeBy
set_option maxRecDepth 20000 in
theorem ggX3_lose_X3_close : GoodIn wsX3_lose wsX3_close := goodIn_r _ [24, 15, 20, 16, 17, 18, 3, 19, 31, 32, 33, 34, 35, 36, 37, 38, 39, 40, 41] (by decide +kernel) (by decide +kernel)
set_option maxRecDepth 20000 in
theorem gX3_lose_X3_close : GoodIn wsX3_lose (wsV RX3 74 RX3 yX3_close wsX3_close) := goodIn_app (goodIn_of _ (by decide +kernel)) ggX3_lose_X3_close
set_option maxRecDepth 20000 in
theorem ggX3_lose_X3_age : GoodIn wsX3_lose wsX3_age := goodIn_r _ [28, 29, 30, 31, 32, 33, 34, 35, 36, 37, 38, 39, 40, 41] (by decide +kernel) (by decide +kernel)
set_option maxRecDepth 20000 in
theorem gX3_lose_X3_age : GoodIn wsX3_lose (wsV RX3 67 RX3 yX3_age wsX3_age) := goodIn_app (goodIn_of _ (by decide +kernel)) ggX3_lose_X3_age
theorem dX3_lose_0 : decode cX3_lose 0 = .ok (.iload_n 1, 1) := by decide +kernel
theorem dX3_lose_1 : decode cX3_lose 1 = .ok (.invokestatic 52, 3) := by decide +kernel
theorem dX3_lose_4 : decode cX3_lose 4 = .ok (.ifCond .eq 19, 3) := by decide +kernel
theorem dX3_lose_7 : decode cX3_lose 7 = .ok (.iload_n 2, 1) := by decide +kernel
theorem dX3_lose_8 : decode cX3_lose 8 = .ok (.invokestatic 56, 3) := by decide +kernel
theorem dX3_lose_11 : decode cX3_lose 11 = .ok (.ifCond .eq 12, 3) := by decide +kernel
theorem dX3_lose_14 : decode cX3_lose 14 = .ok (.iload_n 3, 1) := by decide +kernel
theorem dX3_lose_15 : decode cX3_lose 15 = .ok (.iconst 0, 1) := by decide +kernel
theorem dX3_lose_16 : decode cX3_lose 16 = .ok (.iconst 2, 1) := by decide +kernel
theorem dX3_lose_17 : decode cX3_lose 17 = .ok (.invokestatic 40, 3) := by decide +kernel
theorem dX3_lose_20 : decode cX3_lose 20 = .ok (.ifCond .ne 5, 3) := by decide +kernel
theorem dX3_lose_23 : decode cX3_lose 23 = .ok (.iconst (-1), 1) := by decide +kernel
theorem dX3_lose_24 : decode cX3_lose 24 = .ok (.ireturn, 1) := by decide +kernel
theorem dX3_lose_25 : decode cX3_lose 25 = .ok (.aload_n 0, 1) := by decide +kernel
theorem dX3_lose_26 : decode cX3_lose 26 = .ok (.iload_n 1, 1) := by decide +kernel
theorem dX3_lose_27 : decode cX3_lose 27 = .ok (.iload_n 2, 1) := by decide +kernel
theorem dX3_lose_28 : decode cX3_lose 28 = .ok (.iload_n 3, 1) := by decide +kernel
theorem dX3_lose_29 : decode cX3_lose 29 = .ok (.iconst 2, 1) := by decide +kernel
theorem dX3_lose_30 : decode cX3_lose 30 = .ok (.if_icmp .ne 7, 3) := by decide +kernel
theorem dX3_lose_33 : decode cX3_lose 33 = .ok (.iconst 1, 1) := by decide +kernel
theorem dX3_lose_34 : decode cX3_lose 34 = .ok (.goto 4, 3) := by decide +kernel
theorem dX3_lose_37 : decode cX3_lose 37 = .ok (.iconst 0, 1) := by decide +kernel
theorem dX3_lose_38 : decode cX3_lose 38 = .ok (.invokevirtual 77, 3) := by decide +kernel
theorem dX3_lose_41 : decode cX3_lose 41 = .ok (.istore 4, 2) := by decide +kernel
theorem dX3_lose_43 : decode cX3_lose 43 = .ok (.iload 4, 2) := by decide +kernel
theorem dX3_lose_45 : decode cX3_lose 45 = .ok (.iconst (-1), 1) := by decide +kernel
theorem dX3_lose_46 : decode cX3_lose 46 = .ok (.if_icmp .ne 5, 3) := by decide +kernel
theorem dX3_lose_49 : decode cX3_lose 49 = .ok (.iconst 0, 1) := by decide +kernel
theorem dX3_lose_50 : decode cX3_lose 50 = .ok (.ireturn, 1) := by decide +kernel
theorem dX3_lose_51 : decode cX3_lose 51 = .ok (.aload_n 0, 1) := by decide +kernel
theorem dX3_lose_52 : decode cX3_lose 52 = .ok (.iload_n 1, 1) := by decide +kernel
theorem dX3_lose_53 : decode cX3_lose 53 = .ok (.iload 4, 2) := by decide +kernel
theorem dX3_lose_55 : decode cX3_lose 55 = .ok (.invokevirtual 74, 3) := by decide +kernel
theorem dX3_lose_58 : decode cX3_lose 58 = .ok (.istore 5, 2) := by decide +kernel
theorem dX3_lose_60 : decode cX3_lose 60 = .ok (.aload_n 0, 1) := by decide +kernel
theorem dX3_lose_61 : decode cX3_lose 61 = .ok (.iload_n 1, 1) := by decide +kernel
theorem dX3_lose_62 : decode cX3_lose 62 = .ok (.iconst (-1), 1) := by decide +kernel
theorem dX3_lose_63 : decode cX3_lose 63 = .ok (.invokevirtual 67, 3) := by decide +kernel
theorem dX3_lose_66 : decode cX3_lose 66 = .ok (.iconst 1, 1) := by decide +kernel
theorem dX3_lose_67 : decode cX3_lose 67 = .ok (.ireturn, 1) := by decide +kernel
set_option maxRecDepth 20000 in
theorem ggX3_areTwo_X3_isRow : GoodIn wsX3_areTwo wsX3_isRow := goodIn_r _ [4, 5, 6, 3, 7] (by decide +kernel) (by decide +kernel)
set_option maxRecDepth 20000 in
theorem gX3_areTwo_X3_isRow : GoodIn wsX3_areTwo (va_wsS RX3 52 yX3_isRow wsX3_isRow) := goodIn_app (goodIn_of _ (by decide +kernel)) ggX3_areTwo_X3_isRow
theorem dX3_areTwo_0 : decode cX3_areTwo 0 = .ok (.iload_n 0, 1) := by decide +kernel
theorem dX3_areTwo_1 : decode cX3_areTwo 1 = .ok (.invokestatic 52, 3) := by decide +kernel
theorem dX3_areTwo_4 : decode cX3_areTwo 4 = .ok (.ifCond .eq 19, 3) := by decide +kernel
theorem dX3_areTwo_7 : decode cX3_areTwo 7 = .ok (.iload_n 1, 1) := by decide +kernel
theorem dX3_areTwo_8 : decode cX3_areTwo 8 = .ok (.invokestatic 52, 3) := by decide +kernel
theorem dX3_areTwo_11 : decode cX3_areTwo 11 = .ok (.ifCond .eq 12, 3) := by decide +kernel
theorem dX3_areTwo_14 : decode cX3_areTwo 14 = .ok (.iload_n 0, 1) := by decide +kernel
theorem dX3_areTwo_15 : decode cX3_areTwo 15 = .ok (.iload_n 1, 1) := by decide +kernel
theorem dX3_areTwo_16 : decode cX3_areTwo 16 = .ok (.if_icmp .eq 7, 3) := by decide +kernel
theorem dX3_areTwo_19 : decode cX3_areTwo 19 = .ok (.iconst 1, 1) := by decide +kernel
theorem dX3_areTwo_20 : decode cX3_areTwo 20 = .ok (.goto 4, 3) := by decide +kernel
theorem dX3_areTwo_23 : decode cX3_areTwo 23 = .ok (.iconst 0, 1) := by decide +kernel
theorem dX3_areTwo_24 : decode cX3_areTwo 24 = .ok (.ireturn, 1) := by decide +kernel
set_option maxRecDepth 20000 in
theorem ggX3_all_X3_areTwo : GoodIn wsX3_all wsX3_areTwo := goodIn_r _ [5, 6, 7, 4, 8, 9, 10, 11] (by decide +kernel) (by decide +kernel)
set_option maxRecDepth 20000 in
theorem gX3_all_X3_areTwo : GoodIn wsX3_all (va_wsS RX3 81 yX3_areTwo wsX3_areTwo) := goodIn_app (goodIn_of _ (by decide +kernel)) ggX3_all_X3_areTwo
set_option maxRecDepth 20000 in
theorem ggX3_all_X3_in : GoodIn wsX3_all wsX3_in := goodIn_r _ [11] (by decide +kernel) (by decide +kernel)
set_option maxRecDepth 20000 in
theorem gX3_all_X3_in : GoodIn wsX3_all (va_wsS RX3 40 yX3_in wsX3_in) := goodIn_app (goodIn_of _ (by decide +kernel)) ggX3_all_X3_in
set_option maxRecDepth 20000 in
theorem ggX3_all_X3_refuse : GoodIn wsX3_all wsX3_refuse := goodIn_r _ [15, 16, 32, 33, 34, 35, 36, 37, 38, 39, 40, 41, 42] (by decide +kernel) (by decide +kernel)
set_option maxRecDepth 20000 in
theorem gX3_all_X3_refuse : GoodIn wsX3_all (wsV RX3 71 RX3 yX3_refuse wsX3_refuse) := goodIn_app (goodIn_of _ (by decide +kernel)) ggX3_all_X3_refuse
set_option maxRecDepth 20000 in
theorem ggX3_all_X3_thing : GoodIn wsX3_all wsX3_thing := goodIn_r _ [20, 21, 32, 33, 34, 35, 36, 37, 38, 39, 40, 41, 42] (by decide +kernel) (by decide +kernel)
set_option maxRecDepth 20000 in
theorem gX3_all_X3_thing : GoodIn wsX3_all (wsV RX3 48 RX3 yX3_thing wsX3_thing) := goodIn_app (goodIn_of _ (by decide +kernel)) ggX3_all_X3_thing
set_option maxRecDepth 20000 in
theorem ggX3_all_X3_open : GoodIn wsX3_all wsX3_open := goodIn_r _ [25, 1, 21, 17, 18, 19, 4, 20, 32, 33, 34, 35, 36, 37, 38, 39, 40, 41, 42] (by decide +kernel) (by decide +kernel)
set_option maxRecDepth 20000 in
theorem gX3_all_X3_open : GoodIn wsX3_all (wsV RX3 63 RX3 yX3_open wsX3_open) := goodIn_app (goodIn_of _ (by decide +kernel)) ggX3_all_X3_open
set_option maxRecDepth 20000 in
theorem ggX3_all_X3_age : GoodIn wsX3_all wsX3_age := goodIn_r _ [29, 30, 31, 32, 33, 34, 35, 36, 37, 38, 39, 40, 41, 42] (by decide +kernel) (by decide +kernel)
set_option maxRecDepth 20000 in
theorem gX3_all_X3_age : GoodIn wsX3_all (wsV RX3 67 RX3 yX3_age wsX3_age) := goodIn_app (goodIn_of _ (by decide +kernel)) ggX3_all_X3_age
theorem dX3_all_0 : decode cX3_all 0 = .ok (.iload_n 1, 1) := by decide +kernel
theorem dX3_all_1 : decode cX3_all 1 = .ok (.iload_n 3, 1) := by decide +kernel
theorem dX3_all_2 : decode cX3_all 2 = .ok (.invokestatic 81, 3) := by decide +kernel
theorem dX3_all_5 : decode cX3_all 5 = .ok (.ifCond .ne 5, 3) := by decide +kernel
theorem dX3_all_8 : decode cX3_all 8 = .ok (.iconst (-1), 1) := by decide +kernel
theorem dX3_all_9 : decode cX3_all 9 = .ok (.ireturn, 1) := by decide +kernel
theorem dX3_all_10 : decode cX3_all 10 = .ok (.aload_n 0, 1) := by decide +kernel
theorem dX3_all_11 : decode cX3_all 11 = .ok (.getfield 13, 3) := by decide +kernel
theorem dX3_all_14 : decode cX3_all 14 = .ok (.iload_n 3, 1) := by decide +kernel
theorem dX3_all_15 : decode cX3_all 15 = .ok (.iaload, 1) := by decide +kernel
theorem dX3_all_16 : decode cX3_all 16 = .ok (.ifCond .ne 10, 3) := by decide +kernel
theorem dX3_all_19 : decode cX3_all 19 = .ok (.aload_n 0, 1) := by decide +kernel
theorem dX3_all_20 : decode cX3_all 20 = .ok (.getfield 13, 3) := by decide +kernel
theorem dX3_all_23 : decode cX3_all 23 = .ok (.iload_n 1, 1) := by decide +kernel
theorem dX3_all_24 : decode cX3_all 24 = .ok (.iaload, 1) := by decide +kernel
theorem dX3_all_25 : decode cX3_all 25 = .ok (.ireturn, 1) := by decide +kernel
theorem dX3_all_26 : decode cX3_all 26 = .ok (.aload_n 0, 1) := by decide +kernel
theorem dX3_all_27 : decode cX3_all 27 = .ok (.getfield 13, 3) := by decide +kernel
theorem dX3_all_30 : decode cX3_all 30 = .ok (.iload_n 1, 1) := by decide +kernel
theorem dX3_all_31 : decode cX3_all 31 = .ok (.iaload, 1) := by decide +kernel
theorem dX3_all_32 : decode cX3_all 32 = .ok (.aload_n 0, 1) := by decide +kernel
theorem dX3_all_33 : decode cX3_all 33 = .ok (.getfield 13, 3) := by decide +kernel
theorem dX3_all_36 : decode cX3_all 36 = .ok (.iload_n 3, 1) := by decide +kernel
theorem dX3_all_37 : decode cX3_all 37 = .ok (.iaload, 1) := by decide +kernel
theorem dX3_all_38 : decode cX3_all 38 = .ok (.iadd, 1) := by decide +kernel
theorem dX3_all_39 : decode cX3_all 39 = .ok (.bipush 60, 2) := by decide +kernel
theorem dX3_all_41 : decode cX3_all 41 = .ok (.if_icmp .le 6, 3) := by decide +kernel
theorem dX3_all_44 : decode cX3_all 44 = .ok (.bipush (-3), 2) := by decide +kernel
theorem dX3_all_46 : decode cX3_all 46 = .ok (.ireturn, 1) := by decide +kernel
theorem dX3_all_47 : decode cX3_all 47 = .ok (.iload_n 2, 1) := by decide +kernel
theorem dX3_all_48 : decode cX3_all 48 = .ok (.iconst (-1), 1) := by decide +kernel
theorem dX3_all_49 : decode cX3_all 49 = .ok (.aload_n 0, 1) := by decide +kernel
theorem dX3_all_50 : decode cX3_all 50 = .ok (.getfield 13, 3) := by decide +kernel
theorem dX3_all_53 : decode cX3_all 53 = .ok (.iload_n 1, 1) := by decide +kernel
theorem dX3_all_54 : decode cX3_all 54 = .ok (.iaload, 1) := by decide +kernel
theorem dX3_all_55 : decode cX3_all 55 = .ok (.invokestatic 40, 3) := by decide +kernel
theorem dX3_all_58 : decode cX3_all 58 = .ok (.ifCond .ne 11, 3) := by decide +kernel
theorem dX3_all_61 : decode cX3_all 61 = .ok (.aload_n 0, 1) := by decide +kernel
theorem dX3_all_62 : decode cX3_all 62 = .ok (.iconst 1, 1) := by decide +kernel
theorem dX3_all_63 : decode cX3_all 63 = .ok (.bipush (-5), 2) := by decide +kernel
theorem dX3_all_65 : decode cX3_all 65 = .ok (.invokevirtual 71, 3) := by decide +kernel
theorem dX3_all_68 : decode cX3_all 68 = .ok (.ireturn, 1) := by decide +kernel
theorem dX3_all_69 : decode cX3_all 69 = .ok (.iload_n 2, 1) := by decide +kernel
theorem dX3_all_70 : decode cX3_all 70 = .ok (.iconst (-1), 1) := by decide +kernel
theorem dX3_all_71 : decode cX3_all 71 = .ok (.if_icmp .ne 12, 3) := by decide +kernel
theorem dX3_all_74 : decode cX3_all 74 = .ok (.aload_n 0, 1) := by decide +kernel
theorem dX3_all_75 : decode cX3_all 75 = .ok (.getfield 13, 3) := by decide +kernel
theorem dX3_all_78 : decode cX3_all 78 = .ok (.iload_n 1, 1) := by decide +kernel
theorem dX3_all_79 : decode cX3_all 79 = .ok (.iaload, 1) := by decide +kernel
theorem dX3_all_80 : decode cX3_all 80 = .ok (.goto 4, 3) := by decide +kernel
theorem dX3_all_83 : decode cX3_all 83 = .ok (.iload_n 2, 1) := by decide +kernel
theorem dX3_all_84 : decode cX3_all 84 = .ok (.istore 4, 2) := by decide +kernel
theorem dX3_all_86 : decode cX3_all 86 = .ok (.iconst 0, 1) := by decide +kernel
theorem dX3_all_87 : decode cX3_all 87 = .ok (.istore 5, 2) := by decide +kernel
theorem dX3_all_89 : decode cX3_all 89 = .ok (.iload 5, 2) := by decide +kernel
theorem dX3_all_91 : decode cX3_all 91 = .ok (.aload_n 0, 1) := by decide +kernel
theorem dX3_all_92 : decode cX3_all 92 = .ok (.getfield 13, 3) := by decide +kernel
theorem dX3_all_95 : decode cX3_all 95 = .ok (.iload_n 3, 1) := by decide +kernel
theorem dX3_all_96 : decode cX3_all 96 = .ok (.iaload, 1) := by decide +kernel
theorem dX3_all_97 : decode cX3_all 97 = .ok (.if_icmp .ge 26, 3) := by decide +kernel
theorem dX3_all_100 : decode cX3_all 100 = .ok (.aload_n 0, 1) := by decide +kernel
theorem dX3_all_101 : decode cX3_all 101 = .ok (.iload_n 1, 1) := by decide +kernel
theorem dX3_all_102 : decode cX3_all 102 = .ok (.iload 4, 2) := by decide +kernel
theorem dX3_all_104 : decode cX3_all 104 = .ok (.iload 5, 2) := by decide +kernel
theorem dX3_all_106 : decode cX3_all 106 = .ok (.iadd, 1) := by decide +kernel
theorem dX3_all_107 : decode cX3_all 107 = .ok (.aload_n 0, 1) := by decide +kernel
theorem dX3_all_108 : decode cX3_all 108 = .ok (.iload_n 3, 1) := by decide +kernel
theorem dX3_all_109 : decode cX3_all 109 = .ok (.iload 5, 2) := by decide +kernel
theorem dX3_all_111 : decode cX3_all 111 = .ok (.invokevirtual 48, 3) := by decide +kernel
theorem dX3_all_114 : decode cX3_all 114 = .ok (.invokevirtual 63, 3) := by decide +kernel
theorem dX3_all_117 : decode cX3_all 117 = .ok (.iinc 5 1, 3) := by decide +kernel
theorem dX3_all_120 : decode cX3_all 120 = .ok (.goto (-31), 3) := by decide +kernel
theorem dX3_all_123 : decode cX3_all 123 = .ok (.aload_n 0, 1) := by decide +kernel
theorem dX3_all_124 : decode cX3_all 124 = .ok (.iload_n 1, 1) := by decide +kernel
theorem dX3_all_125 : decode cX3_all 125 = .ok (.iconst (-1), 1) := by decide +kernel
theorem dX3_all_126 : decode cX3_all 126 = .ok (.invokevirtual 67, 3) := by decide +kernel
theorem dX3_all_129 : decode cX3_all 129 = .ok (.aload_n 0, 1) := by decide +kernel
theorem dX3_all_130 : decode cX3_all 130 = .ok (.getfield 13, 3) := by decide +kernel
theorem dX3_all_133 : decode cX3_all 133 = .ok (.iload_n 1, 1) := by decide +kernel
theorem dX3_all_134 : decode cX3_all 134 = .ok (.iaload, 1) := by decide +kernel
theorem dX3_all_135 : decode cX3_all 135 = .ok (.ireturn, 1) := by decide +kernel
set_option maxRecDepth 20000 in
theorem ggX3_clear_X3_isRow : GoodIn wsX3_clear wsX3_isRow := goodIn_r _ [5, 6, 7, 4, 8] (by decide +kernel) (by decide +kernel)
set_option maxRecDepth 20000 in
theorem gX3_clear_X3_isRow : GoodIn wsX3_clear (va_wsS RX3 52 yX3_isRow wsX3_isRow) := goodIn_app (goodIn_of _ (by decide +kernel)) ggX3_clear_X3_isRow
set_option maxRecDepth 20000 in
theorem ggX3_clear_X3_age : GoodIn wsX3_clear wsX3_age := goodIn_r _ [12, 13, 14, 15, 16, 17, 18, 19, 20, 21, 22, 23, 24, 25] (by decide +kernel) (by decide +kernel)
set_option maxRecDepth 20000 in
theorem gX3_clear_X3_age : GoodIn wsX3_clear (wsV RX3 67 RX3 yX3_age wsX3_age) := goodIn_app (goodIn_of _ (by decide +kernel)) ggX3_clear_X3_age
theorem dX3_clear_0 : decode cX3_clear 0 = .ok (.iload_n 1, 1) := by decide +kernel
theorem dX3_clear_1 : decode cX3_clear 1 = .ok (.invokestatic 52, 3) := by decide +kernel
theorem dX3_clear_4 : decode cX3_clear 4 = .ok (.ifCond .ne 5, 3) := by decide +kernel
theorem dX3_clear_7 : decode cX3_clear 7 = .ok (.iconst (-1), 1) := by decide +kernel
theorem dX3_clear_8 : decode cX3_clear 8 = .ok (.ireturn, 1) := by decide +kernel
theorem dX3_clear_9 : decode cX3_clear 9 = .ok (.aload_n 0, 1) := by decide +kernel
theorem dX3_clear_10 : decode cX3_clear 10 = .ok (.getfield 13, 3) := by decide +kernel
theorem dX3_clear_13 : decode cX3_clear 13 = .ok (.iload_n 1, 1) := by decide +kernel
theorem dX3_clear_14 : decode cX3_clear 14 = .ok (.iaload, 1) := by decide +kernel
theorem dX3_clear_15 : decode cX3_clear 15 = .ok (.istore_n 2, 1) := by decide +kernel
theorem dX3_clear_16 : decode cX3_clear 16 = .ok (.iload_n 2, 1) := by decide +kernel
theorem dX3_clear_17 : decode cX3_clear 17 = .ok (.ifCond .le 9, 3) := by decide +kernel
theorem dX3_clear_20 : decode cX3_clear 20 = .ok (.aload_n 0, 1) := by decide +kernel
theorem dX3_clear_21 : decode cX3_clear 21 = .ok (.iload_n 1, 1) := by decide +kernel
theorem dX3_clear_22 : decode cX3_clear 22 = .ok (.iconst (-1), 1) := by decide +kernel
theorem dX3_clear_23 : decode cX3_clear 23 = .ok (.invokevirtual 67, 3) := by decide +kernel
theorem dX3_clear_26 : decode cX3_clear 26 = .ok (.aload_n 0, 1) := by decide +kernel
theorem dX3_clear_27 : decode cX3_clear 27 = .ok (.getfield 13, 3) := by decide +kernel
theorem dX3_clear_30 : decode cX3_clear 30 = .ok (.iload_n 1, 1) := by decide +kernel
theorem dX3_clear_31 : decode cX3_clear 31 = .ok (.iconst 0, 1) := by decide +kernel
theorem dX3_clear_32 : decode cX3_clear 32 = .ok (.iastore, 1) := by decide +kernel
theorem dX3_clear_33 : decode cX3_clear 33 = .ok (.iload_n 2, 1) := by decide +kernel
theorem dX3_clear_34 : decode cX3_clear 34 = .ok (.ireturn, 1) := by decide +kernel
theorem dX3_leave_0 : decode cX3_leave 0 = .ok (.aload_n 0, 1) := by decide +kernel
theorem dX3_leave_1 : decode cX3_leave 1 = .ok (.getfield 19, 3) := by decide +kernel
theorem dX3_leave_4 : decode cX3_leave 4 = .ok (.iload_n 1, 1) := by decide +kernel
theorem dX3_leave_5 : decode cX3_leave 5 = .ok (.iconst (-1), 1) := by decide +kernel
theorem dX3_leave_6 : decode cX3_leave 6 = .ok (.iastore, 1) := by decide +kernel
theorem dX3_leave_7 : decode cX3_leave 7 = .ok (.aload_n 0, 1) := by decide +kernel
theorem dX3_leave_8 : decode cX3_leave 8 = .ok (.getfield 25, 3) := by decide +kernel
theorem dX3_leave_11 : decode cX3_leave 11 = .ok (.iload_n 1, 1) := by decide +kernel
theorem dX3_leave_12 : decode cX3_leave 12 = .ok (.iconst (-1), 1) := by decide +kernel
theorem dX3_leave_13 : decode cX3_leave 13 = .ok (.iastore, 1) := by decide +kernel
theorem dX3_leave_14 : decode cX3_leave 14 = .ok (.aload_n 0, 1) := by decide +kernel
theorem dX3_leave_15 : decode cX3_leave 15 = .ok (.getfield 31, 3) := by decide +kernel
theorem dX3_leave_18 : decode cX3_leave 18 = .ok (.iload_n 1, 1) := by decide +kernel
theorem dX3_leave_19 : decode cX3_leave 19 = .ok (.iconst 0, 1) := by decide +kernel
theorem dX3_leave_20 : decode cX3_leave 20 = .ok (.iastore, 1) := by decide +kernel
theorem dX3_leave_21 : decode cX3_leave 21 = .ok (.aload_n 0, 1) := by decide +kernel
theorem dX3_leave_22 : decode cX3_leave 22 = .ok (.getfield 34, 3) := by decide +kernel
theorem dX3_leave_25 : decode cX3_leave 25 = .ok (.iload_n 1, 1) := by decide +kernel
theorem dX3_leave_26 : decode cX3_leave 26 = .ok (.iconst 0, 1) := by decide +kernel
theorem dX3_leave_27 : decode cX3_leave 27 = .ok (.iastore, 1) := by decide +kernel
theorem dX3_leave_28 : decode cX3_leave 28 = .ok (.return_, 1) := by decide +kernel
set_option maxRecDepth 20000 in
theorem ggX3_copy_X3_areTwo : GoodIn wsX3_copy wsX3_areTwo := goodIn_r _ [7, 8, 9, 6, 10, 11, 12, 13] (by decide +kernel) (by decide +kernel)
set_option maxRecDepth 20000 in
theorem gX3_copy_X3_areTwo : GoodIn wsX3_copy (va_wsS RX3 81 yX3_areTwo wsX3_areTwo) := goodIn_app (goodIn_of _ (by decide +kernel)) ggX3_copy_X3_areTwo
set_option maxRecDepth 20000 in
theorem ggX3_copy_X3_leave : GoodIn wsX3_copy wsX3_leave := goodIn_r _ [17, 1, 18, 19, 20, 25, 26, 27, 28, 29, 30, 31, 32, 33, 34, 35] (by decide +kernel) (by decide +kernel)
set_option maxRecDepth 20000 in
theorem gX3_copy_X3_leave : GoodIn wsX3_copy (wsV RX3 85 RX3 yX3_leave wsX3_leave) := goodIn_app (goodIn_of _ (by decide +kernel)) ggX3_copy_X3_leave
set_option maxRecDepth 20000 in
theorem ggX3_copy_X3_thing : GoodIn wsX3_copy wsX3_thing := goodIn_r _ [24, 3, 25, 26, 27, 28, 29, 30, 31, 32, 33, 34, 35] (by decide +kernel) (by decide +kernel)
set_option maxRecDepth 20000 in
theorem gX3_copy_X3_thing : GoodIn wsX3_copy (wsV RX3 48 RX3 yX3_thing wsX3_thing) := goodIn_app (goodIn_of _ (by decide +kernel)) ggX3_copy_X3_thing
theorem dX3_copy_0 : decode cX3_copy 0 = .ok (.iload_n 1, 1) := by decide +kernel
theorem dX3_copy_1 : decode cX3_copy 1 = .ok (.iload_n 2, 1) := by decide +kernel
theorem dX3_copy_2 : decode cX3_copy 2 = .ok (.invokestatic 81, 3) := by decide +kernel
theorem dX3_copy_5 : decode cX3_copy 5 = .ok (.ifCond .ne 5, 3) := by decide +kernel
theorem dX3_copy_8 : decode cX3_copy 8 = .ok (.iconst (-1), 1) := by decide +kernel
theorem dX3_copy_9 : decode cX3_copy 9 = .ok (.ireturn, 1) := by decide +kernel
theorem dX3_copy_10 : decode cX3_copy 10 = .ok (.iconst 0, 1) := by decide +kernel
theorem dX3_copy_11 : decode cX3_copy 11 = .ok (.istore_n 3, 1) := by decide +kernel
theorem dX3_copy_12 : decode cX3_copy 12 = .ok (.iload_n 3, 1) := by decide +kernel
theorem dX3_copy_13 : decode cX3_copy 13 = .ok (.iconst 4, 1) := by decide +kernel
theorem dX3_copy_14 : decode cX3_copy 14 = .ok (.if_icmp .ge 24, 3) := by decide +kernel
theorem dX3_copy_17 : decode cX3_copy 17 = .ok (.aload_n 0, 1) := by decide +kernel
theorem dX3_copy_18 : decode cX3_copy 18 = .ok (.getfield 19, 3) := by decide +kernel
theorem dX3_copy_21 : decode cX3_copy 21 = .ok (.iload_n 3, 1) := by decide +kernel
theorem dX3_copy_22 : decode cX3_copy 22 = .ok (.iaload, 1) := by decide +kernel
theorem dX3_copy_23 : decode cX3_copy 23 = .ok (.iload_n 1, 1) := by decide +kernel
theorem dX3_copy_24 : decode cX3_copy 24 = .ok (.if_icmp .ne 8, 3) := by decide +kernel
theorem dX3_copy_27 : decode cX3_copy 27 = .ok (.aload_n 0, 1) := by decide +kernel
theorem dX3_copy_28 : decode cX3_copy 28 = .ok (.iload_n 3, 1) := by decide +kernel
theorem dX3_copy_29 : decode cX3_copy 29 = .ok (.invokevirtual 85, 3) := by decide +kernel
theorem dX3_copy_32 : decode cX3_copy 32 = .ok (.iinc 3 1, 3) := by decide +kernel
theorem dX3_copy_35 : decode cX3_copy 35 = .ok (.goto (-23), 3) := by decide +kernel
theorem dX3_copy_38 : decode cX3_copy 38 = .ok (.aload_n 0, 1) := by decide +kernel
theorem dX3_copy_39 : decode cX3_copy 39 = .ok (.getfield 13, 3) := by decide +kernel
theorem dX3_copy_42 : decode cX3_copy 42 = .ok (.iload_n 1, 1) := by decide +kernel
theorem dX3_copy_43 : decode cX3_copy 43 = .ok (.aload_n 0, 1) := by decide +kernel
theorem dX3_copy_44 : decode cX3_copy 44 = .ok (.getfield 13, 3) := by decide +kernel
theorem dX3_copy_47 : decode cX3_copy 47 = .ok (.iload_n 2, 1) := by decide +kernel
theorem dX3_copy_48 : decode cX3_copy 48 = .ok (.iaload, 1) := by decide +kernel
theorem dX3_copy_49 : decode cX3_copy 49 = .ok (.iastore, 1) := by decide +kernel
theorem dX3_copy_50 : decode cX3_copy 50 = .ok (.iconst 0, 1) := by decide +kernel
theorem dX3_copy_51 : decode cX3_copy 51 = .ok (.istore_n 3, 1) := by decide +kernel
theorem dX3_copy_52 : decode cX3_copy 52 = .ok (.iload_n 3, 1) := by decide +kernel
theorem dX3_copy_53 : decode cX3_copy 53 = .ok (.aload_n 0, 1) := by decide +kernel
theorem dX3_copy_54 : decode cX3_copy 54 = .ok (.getfield 13, 3) := by decide +kernel
theorem dX3_copy_57 : decode cX3_copy 57 = .ok (.iload_n 2, 1) := by decide +kernel
theorem dX3_copy_58 : decode cX3_copy 58 = .ok (.iaload, 1) := by decide +kernel
theorem dX3_copy_59 : decode cX3_copy 59 = .ok (.if_icmp .ge 26, 3) := by decide +kernel
theorem dX3_copy_62 : decode cX3_copy 62 = .ok (.aload_n 0, 1) := by decide +kernel
theorem dX3_copy_63 : decode cX3_copy 63 = .ok (.getfield 7, 3) := by decide +kernel
theorem dX3_copy_66 : decode cX3_copy 66 = .ok (.bipush 64, 2) := by decide +kernel
theorem dX3_copy_68 : decode cX3_copy 68 = .ok (.iload_n 1, 1) := by decide +kernel
theorem dX3_copy_69 : decode cX3_copy 69 = .ok (.imul, 1) := by decide +kernel
theorem dX3_copy_70 : decode cX3_copy 70 = .ok (.iload_n 3, 1) := by decide +kernel
theorem dX3_copy_71 : decode cX3_copy 71 = .ok (.iadd, 1) := by decide +kernel
theorem dX3_copy_72 : decode cX3_copy 72 = .ok (.aload_n 0, 1) := by decide +kernel
theorem dX3_copy_73 : decode cX3_copy 73 = .ok (.iload_n 2, 1) := by decide +kernel
theorem dX3_copy_74 : decode cX3_copy 74 = .ok (.iload_n 3, 1) := by decide +kernel
theorem dX3_copy_75 : decode cX3_copy 75 = .ok (.invokevirtual 48, 3) := by decide +kernel
theorem dX3_copy_78 : decode cX3_copy 78 = .ok (.iastore, 1) := by decide +kernel
theorem dX3_copy_79 : decode cX3_copy 79 = .ok (.iinc 3 1, 3) := by decide +kernel
theorem dX3_copy_82 : decode cX3_copy 82 = .ok (.goto (-30), 3) := by decide +kernel
theorem dX3_copy_85 : decode cX3_copy 85 = .ok (.aload_n 0, 1) := by decide +kernel
theorem dX3_copy_86 : decode cX3_copy 86 = .ok (.getfield 13, 3) := by decide +kernel
theorem dX3_copy_89 : decode cX3_copy 89 = .ok (.iload_n 1, 1) := by decide +kernel
theorem dX3_copy_90 : decode cX3_copy 90 = .ok (.iaload, 1) := by decide +kernel
theorem dX3_copy_91 : decode cX3_copy 91 = .ok (.ireturn, 1) := by decide +kernel
set_option maxRecDepth 20000 in
theorem ggX3_turn_X3_isRow : GoodIn wsX3_turn wsX3_isRow := goodIn_r _ [7, 8, 9, 6, 10] (by decide +kernel) (by decide +kernel)
set_option maxRecDepth 20000 in
theorem gX3_turn_X3_isRow : GoodIn wsX3_turn (va_wsS RX3 52 yX3_isRow wsX3_isRow) := goodIn_app (goodIn_of _ (by decide +kernel)) ggX3_turn_X3_isRow
set_option maxRecDepth 20000 in
theorem ggX3_turn_X3_thing : GoodIn wsX3_turn wsX3_thing := goodIn_r _ [14, 3, 15, 16, 17, 18, 19, 20, 21, 22, 23, 24, 25] (by decide +kernel) (by decide +kernel)
set_option maxRecDepth 20000 in
theorem gX3_turn_X3_thing : GoodIn wsX3_turn (wsV RX3 48 RX3 yX3_thing wsX3_thing) := goodIn_app (goodIn_of _ (by decide +kernel)) ggX3_turn_X3_thing
theorem dX3_turn_0 : decode cX3_turn 0 = .ok (.iload_n 1, 1) := by decide +kernel
theorem dX3_turn_1 : decode cX3_turn 1 = .ok (.invokestatic 52, 3) := by decide +kernel
theorem dX3_turn_4 : decode cX3_turn 4 = .ok (.ifCond .ne 5, 3) := by decide +kernel
theorem dX3_turn_7 : decode cX3_turn 7 = .ok (.iconst (-1), 1) := by decide +kernel
theorem dX3_turn_8 : decode cX3_turn 8 = .ok (.ireturn, 1) := by decide +kernel
theorem dX3_turn_9 : decode cX3_turn 9 = .ok (.aload_n 0, 1) := by decide +kernel
theorem dX3_turn_10 : decode cX3_turn 10 = .ok (.getfield 13, 3) := by decide +kernel
theorem dX3_turn_13 : decode cX3_turn 13 = .ok (.iload_n 1, 1) := by decide +kernel
theorem dX3_turn_14 : decode cX3_turn 14 = .ok (.iaload, 1) := by decide +kernel
theorem dX3_turn_15 : decode cX3_turn 15 = .ok (.istore_n 2, 1) := by decide +kernel
theorem dX3_turn_16 : decode cX3_turn 16 = .ok (.iconst 0, 1) := by decide +kernel
theorem dX3_turn_17 : decode cX3_turn 17 = .ok (.istore_n 3, 1) := by decide +kernel
theorem dX3_turn_18 : decode cX3_turn 18 = .ok (.iload_n 3, 1) := by decide +kernel
theorem dX3_turn_19 : decode cX3_turn 19 = .ok (.iload_n 2, 1) := by decide +kernel
theorem dX3_turn_20 : decode cX3_turn 20 = .ok (.if_icmp .ge 25, 3) := by decide +kernel
theorem dX3_turn_23 : decode cX3_turn 23 = .ok (.aload_n 0, 1) := by decide +kernel
theorem dX3_turn_24 : decode cX3_turn 24 = .ok (.getfield 37, 3) := by decide +kernel
theorem dX3_turn_27 : decode cX3_turn 27 = .ok (.iload_n 3, 1) := by decide +kernel
theorem dX3_turn_28 : decode cX3_turn 28 = .ok (.aload_n 0, 1) := by decide +kernel
theorem dX3_turn_29 : decode cX3_turn 29 = .ok (.iload_n 1, 1) := by decide +kernel
theorem dX3_turn_30 : decode cX3_turn 30 = .ok (.iload_n 2, 1) := by decide +kernel
theorem dX3_turn_31 : decode cX3_turn 31 = .ok (.iconst 1, 1) := by decide +kernel
theorem dX3_turn_32 : decode cX3_turn 32 = .ok (.isub, 1) := by decide +kernel
theorem dX3_turn_33 : decode cX3_turn 33 = .ok (.iload_n 3, 1) := by decide +kernel
theorem dX3_turn_34 : decode cX3_turn 34 = .ok (.isub, 1) := by decide +kernel
theorem dX3_turn_35 : decode cX3_turn 35 = .ok (.invokevirtual 48, 3) := by decide +kernel
theorem dX3_turn_38 : decode cX3_turn 38 = .ok (.iastore, 1) := by decide +kernel
theorem dX3_turn_39 : decode cX3_turn 39 = .ok (.iinc 3 1, 3) := by decide +kernel
theorem dX3_turn_42 : decode cX3_turn 42 = .ok (.goto (-24), 3) := by decide +kernel
theorem dX3_turn_45 : decode cX3_turn 45 = .ok (.iconst 0, 1) := by decide +kernel
theorem dX3_turn_46 : decode cX3_turn 46 = .ok (.istore_n 3, 1) := by decide +kernel
theorem dX3_turn_47 : decode cX3_turn 47 = .ok (.iload_n 3, 1) := by decide +kernel
theorem dX3_turn_48 : decode cX3_turn 48 = .ok (.iload_n 2, 1) := by decide +kernel
theorem dX3_turn_49 : decode cX3_turn 49 = .ok (.if_icmp .ge 26, 3) := by decide +kernel
theorem dX3_turn_52 : decode cX3_turn 52 = .ok (.aload_n 0, 1) := by decide +kernel
theorem dX3_turn_53 : decode cX3_turn 53 = .ok (.getfield 7, 3) := by decide +kernel
theorem dX3_turn_56 : decode cX3_turn 56 = .ok (.bipush 64, 2) := by decide +kernel
theorem dX3_turn_58 : decode cX3_turn 58 = .ok (.iload_n 1, 1) := by decide +kernel
theorem dX3_turn_59 : decode cX3_turn 59 = .ok (.imul, 1) := by decide +kernel
theorem dX3_turn_60 : decode cX3_turn 60 = .ok (.iload_n 3, 1) := by decide +kernel
theorem dX3_turn_61 : decode cX3_turn 61 = .ok (.iadd, 1) := by decide +kernel
theorem dX3_turn_62 : decode cX3_turn 62 = .ok (.aload_n 0, 1) := by decide +kernel
theorem dX3_turn_63 : decode cX3_turn 63 = .ok (.getfield 37, 3) := by decide +kernel
theorem dX3_turn_66 : decode cX3_turn 66 = .ok (.iload_n 3, 1) := by decide +kernel
theorem dX3_turn_67 : decode cX3_turn 67 = .ok (.iaload, 1) := by decide +kernel
theorem dX3_turn_68 : decode cX3_turn 68 = .ok (.iastore, 1) := by decide +kernel
theorem dX3_turn_69 : decode cX3_turn 69 = .ok (.iinc 3 1, 3) := by decide +kernel
theorem dX3_turn_72 : decode cX3_turn 72 = .ok (.goto (-25), 3) := by decide +kernel
theorem dX3_turn_75 : decode cX3_turn 75 = .ok (.iload_n 2, 1) := by decide +kernel
theorem dX3_turn_76 : decode cX3_turn 76 = .ok (.ireturn, 1) := by decide +kernel
set_option maxRecDepth 20000 in
theorem ggX3_weave_X3_areTwo : GoodIn wsX3_weave wsX3_areTwo := goodIn_r _ [7, 8, 9, 6, 10, 11, 12, 13] (by decide +kernel) (by decide +kernel)
set_option maxRecDepth 20000 in
theorem gX3_weave_X3_areTwo : GoodIn wsX3_weave (va_wsS RX3 81 yX3_areTwo wsX3_areTwo) := goodIn_app (goodIn_of _ (by decide +kernel)) ggX3_weave_X3_areTwo
set_option maxRecDepth 20000 in
theorem ggX3_weave_X3_thing : GoodIn wsX3_weave wsX3_thing := goodIn_r _ [17, 3, 24, 25, 26, 27, 28, 29, 30, 31, 32, 33, 34] (by decide +kernel) (by decide +kernel)
set_option maxRecDepth 20000 in
theorem gX3_weave_X3_thing : GoodIn wsX3_weave (wsV RX3 48 RX3 yX3_thing wsX3_thing) := goodIn_app (goodIn_of _ (by decide +kernel)) ggX3_weave_X3_thing
set_option maxRecDepth 20000 in
theorem ggX3_weave_X3_age : GoodIn wsX3_weave wsX3_age := goodIn_r _ [21, 22, 23, 24, 25, 26, 27, 28, 29, 30, 31, 32, 33, 34] (by decide +kernel) (by decide +kernel)
set_option maxRecDepth 20000 in
theorem gX3_weave_X3_age : GoodIn wsX3_weave (wsV RX3 67 RX3 yX3_age wsX3_age) := goodIn_app (goodIn_of _ (by decide +kernel)) ggX3_weave_X3_age
theorem dX3_weave_0 : decode cX3_weave 0 = .ok (.iload_n 1, 1) := by decide +kernel
theorem dX3_weave_1 : decode cX3_weave 1 = .ok (.iload_n 2, 1) := by decide +kernel
theorem dX3_weave_2 : decode cX3_weave 2 = .ok (.invokestatic 81, 3) := by decide +kernel
theorem dX3_weave_5 : decode cX3_weave 5 = .ok (.ifCond .ne 5, 3) := by decide +kernel
theorem dX3_weave_8 : decode cX3_weave 8 = .ok (.iconst (-1), 1) := by decide +kernel
theorem dX3_weave_9 : decode cX3_weave 9 = .ok (.ireturn, 1) := by decide +kernel
theorem dX3_weave_10 : decode cX3_weave 10 = .ok (.aload_n 0, 1) := by decide +kernel
theorem dX3_weave_11 : decode cX3_weave 11 = .ok (.getfield 13, 3) := by decide +kernel
theorem dX3_weave_14 : decode cX3_weave 14 = .ok (.iload_n 1, 1) := by decide +kernel
theorem dX3_weave_15 : decode cX3_weave 15 = .ok (.iaload, 1) := by decide +kernel
theorem dX3_weave_16 : decode cX3_weave 16 = .ok (.istore_n 3, 1) := by decide +kernel
theorem dX3_weave_17 : decode cX3_weave 17 = .ok (.aload_n 0, 1) := by decide +kernel
theorem dX3_weave_18 : decode cX3_weave 18 = .ok (.getfield 13, 3) := by decide +kernel
theorem dX3_weave_21 : decode cX3_weave 21 = .ok (.iload_n 2, 1) := by decide +kernel
theorem dX3_weave_22 : decode cX3_weave 22 = .ok (.iaload, 1) := by decide +kernel
theorem dX3_weave_23 : decode cX3_weave 23 = .ok (.istore 4, 2) := by decide +kernel
theorem dX3_weave_25 : decode cX3_weave 25 = .ok (.iload 4, 2) := by decide +kernel
theorem dX3_weave_27 : decode cX3_weave 27 = .ok (.ifCond .ne 5, 3) := by decide +kernel
theorem dX3_weave_30 : decode cX3_weave 30 = .ok (.iload_n 3, 1) := by decide +kernel
theorem dX3_weave_31 : decode cX3_weave 31 = .ok (.ireturn, 1) := by decide +kernel
theorem dX3_weave_32 : decode cX3_weave 32 = .ok (.iload_n 3, 1) := by decide +kernel
theorem dX3_weave_33 : decode cX3_weave 33 = .ok (.iload 4, 2) := by decide +kernel
theorem dX3_weave_35 : decode cX3_weave 35 = .ok (.iadd, 1) := by decide +kernel
theorem dX3_weave_36 : decode cX3_weave 36 = .ok (.bipush 60, 2) := by decide +kernel
theorem dX3_weave_38 : decode cX3_weave 38 = .ok (.if_icmp .le 6, 3) := by decide +kernel
theorem dX3_weave_41 : decode cX3_weave 41 = .ok (.bipush (-3), 2) := by decide +kernel
theorem dX3_weave_43 : decode cX3_weave 43 = .ok (.ireturn, 1) := by decide +kernel
theorem dX3_weave_44 : decode cX3_weave 44 = .ok (.iconst 0, 1) := by decide +kernel
theorem dX3_weave_45 : decode cX3_weave 45 = .ok (.istore 5, 2) := by decide +kernel
theorem dX3_weave_47 : decode cX3_weave 47 = .ok (.iconst 0, 1) := by decide +kernel
theorem dX3_weave_48 : decode cX3_weave 48 = .ok (.istore 6, 2) := by decide +kernel
theorem dX3_weave_50 : decode cX3_weave 50 = .ok (.iload 6, 2) := by decide +kernel
theorem dX3_weave_52 : decode cX3_weave 52 = .ok (.iload_n 3, 1) := by decide +kernel
theorem dX3_weave_53 : decode cX3_weave 53 = .ok (.if_icmp .lt 10, 3) := by decide +kernel
theorem dX3_weave_56 : decode cX3_weave 56 = .ok (.iload 6, 2) := by decide +kernel
theorem dX3_weave_58 : decode cX3_weave 58 = .ok (.iload 4, 2) := by decide +kernel
theorem dX3_weave_60 : decode cX3_weave 60 = .ok (.if_icmp .ge 56, 3) := by decide +kernel
theorem dX3_weave_63 : decode cX3_weave 63 = .ok (.iload 6, 2) := by decide +kernel
theorem dX3_weave_65 : decode cX3_weave 65 = .ok (.iload_n 3, 1) := by decide +kernel
theorem dX3_weave_66 : decode cX3_weave 66 = .ok (.if_icmp .ge 20, 3) := by decide +kernel
theorem dX3_weave_69 : decode cX3_weave 69 = .ok (.aload_n 0, 1) := by decide +kernel
theorem dX3_weave_70 : decode cX3_weave 70 = .ok (.getfield 37, 3) := by decide +kernel
theorem dX3_weave_73 : decode cX3_weave 73 = .ok (.iload 5, 2) := by decide +kernel
theorem dX3_weave_75 : decode cX3_weave 75 = .ok (.aload_n 0, 1) := by decide +kernel
theorem dX3_weave_76 : decode cX3_weave 76 = .ok (.iload_n 1, 1) := by decide +kernel
theorem dX3_weave_77 : decode cX3_weave 77 = .ok (.iload 6, 2) := by decide +kernel
theorem dX3_weave_79 : decode cX3_weave 79 = .ok (.invokevirtual 48, 3) := by decide +kernel
theorem dX3_weave_82 : decode cX3_weave 82 = .ok (.iastore, 1) := by decide +kernel
theorem dX3_weave_83 : decode cX3_weave 83 = .ok (.iinc 5 1, 3) := by decide +kernel
theorem dX3_weave_86 : decode cX3_weave 86 = .ok (.iload 6, 2) := by decide +kernel
theorem dX3_weave_88 : decode cX3_weave 88 = .ok (.iload 4, 2) := by decide +kernel
theorem dX3_weave_90 : decode cX3_weave 90 = .ok (.if_icmp .ge 20, 3) := by decide +kernel
theorem dX3_weave_93 : decode cX3_weave 93 = .ok (.aload_n 0, 1) := by decide +kernel
theorem dX3_weave_94 : decode cX3_weave 94 = .ok (.getfield 37, 3) := by decide +kernel
theorem dX3_weave_97 : decode cX3_weave 97 = .ok (.iload 5, 2) := by decide +kernel
theorem dX3_weave_99 : decode cX3_weave 99 = .ok (.aload_n 0, 1) := by decide +kernel
theorem dX3_weave_100 : decode cX3_weave 100 = .ok (.iload_n 2, 1) := by decide +kernel
theorem dX3_weave_101 : decode cX3_weave 101 = .ok (.iload 6, 2) := by decide +kernel
theorem dX3_weave_103 : decode cX3_weave 103 = .ok (.invokevirtual 48, 3) := by decide +kernel
theorem dX3_weave_106 : decode cX3_weave 106 = .ok (.iastore, 1) := by decide +kernel
theorem dX3_weave_107 : decode cX3_weave 107 = .ok (.iinc 5 1, 3) := by decide +kernel
theorem dX3_weave_110 : decode cX3_weave 110 = .ok (.iinc 6 1, 3) := by decide +kernel
theorem dX3_weave_113 : decode cX3_weave 113 = .ok (.goto (-63), 3) := by decide +kernel
theorem dX3_weave_116 : decode cX3_weave 116 = .ok (.iconst 0, 1) := by decide +kernel
theorem dX3_weave_117 : decode cX3_weave 117 = .ok (.istore 6, 2) := by decide +kernel
theorem dX3_weave_119 : decode cX3_weave 119 = .ok (.iload 6, 2) := by decide +kernel
theorem dX3_weave_121 : decode cX3_weave 121 = .ok (.iload 5, 2) := by decide +kernel
theorem dX3_weave_123 : decode cX3_weave 123 = .ok (.if_icmp .ge 28, 3) := by decide +kernel
theorem dX3_weave_126 : decode cX3_weave 126 = .ok (.aload_n 0, 1) := by decide +kernel
theorem dX3_weave_127 : decode cX3_weave 127 = .ok (.getfield 7, 3) := by decide +kernel
theorem dX3_weave_130 : decode cX3_weave 130 = .ok (.bipush 64, 2) := by decide +kernel
theorem dX3_weave_132 : decode cX3_weave 132 = .ok (.iload_n 1, 1) := by decide +kernel
theorem dX3_weave_133 : decode cX3_weave 133 = .ok (.imul, 1) := by decide +kernel
theorem dX3_weave_134 : decode cX3_weave 134 = .ok (.iload 6, 2) := by decide +kernel
theorem dX3_weave_136 : decode cX3_weave 136 = .ok (.iadd, 1) := by decide +kernel
theorem dX3_weave_137 : decode cX3_weave 137 = .ok (.aload_n 0, 1) := by decide +kernel
theorem dX3_weave_138 : decode cX3_weave 138 = .ok (.getfield 37, 3) := by decide +kernel
theorem dX3_weave_141 : decode cX3_weave 141 = .ok (.iload 6, 2) := by decide +kernel
theorem dX3_weave_143 : decode cX3_weave 143 = .ok (.iaload, 1) := by decide +kernel
theorem dX3_weave_144 : decode cX3_weave 144 = .ok (.iastore, 1) := by decide +kernel
theorem dX3_weave_145 : decode cX3_weave 145 = .ok (.iinc 6 1, 3) := by decide +kernel
theorem dX3_weave_148 : decode cX3_weave 148 = .ok (.goto (-29), 3) := by decide +kernel
theorem dX3_weave_151 : decode cX3_weave 151 = .ok (.aload_n 0, 1) := by decide +kernel
theorem dX3_weave_152 : decode cX3_weave 152 = .ok (.getfield 13, 3) := by decide +kernel
theorem dX3_weave_155 : decode cX3_weave 155 = .ok (.iload_n 1, 1) := by decide +kernel
theorem dX3_weave_156 : decode cX3_weave 156 = .ok (.iload 5, 2) := by decide +kernel
theorem dX3_weave_158 : decode cX3_weave 158 = .ok (.iastore, 1) := by decide +kernel
theorem dX3_weave_159 : decode cX3_weave 159 = .ok (.aload_n 0, 1) := by decide +kernel
theorem dX3_weave_160 : decode cX3_weave 160 = .ok (.iload_n 1, 1) := by decide +kernel
theorem dX3_weave_161 : decode cX3_weave 161 = .ok (.iconst (-1), 1) := by decide +kernel
theorem dX3_weave_162 : decode cX3_weave 162 = .ok (.invokevirtual 67, 3) := by decide +kernel
theorem dX3_weave_165 : decode cX3_weave 165 = .ok (.iload 5, 2) := by decide +kernel
theorem dX3_weave_167 : decode cX3_weave 167 = .ok (.ireturn, 1) := by decide +kernel
set_option maxRecDepth 20000 in
theorem ggX3_prune_X3_isRow : GoodIn wsX3_prune wsX3_isRow := goodIn_r _ [6, 7, 8, 5, 9] (by decide +kernel) (by decide +kernel)
set_option maxRecDepth 20000 in
theorem gX3_prune_X3_isRow : GoodIn wsX3_prune (va_wsS RX3 52 yX3_isRow wsX3_isRow) := goodIn_app (goodIn_of _ (by decide +kernel)) ggX3_prune_X3_isRow
set_option maxRecDepth 20000 in
theorem ggX3_prune_X3_thing : GoodIn wsX3_prune wsX3_thing := goodIn_r _ [13, 2, 20, 21, 22, 23, 24, 25, 26, 27, 28, 29, 30] (by decide +kernel) (by decide +kernel)
set_option maxRecDepth 20000 in
theorem gX3_prune_X3_thing : GoodIn wsX3_prune (wsV RX3 48 RX3 yX3_thing wsX3_thing) := goodIn_app (goodIn_of _ (by decide +kernel)) ggX3_prune_X3_thing
set_option maxRecDepth 20000 in
theorem ggX3_prune_X3_age : GoodIn wsX3_prune wsX3_age := goodIn_r _ [17, 18, 19, 20, 21, 22, 23, 24, 25, 26, 27, 28, 29, 30] (by decide +kernel) (by decide +kernel)
set_option maxRecDepth 20000 in
theorem gX3_prune_X3_age : GoodIn wsX3_prune (wsV RX3 67 RX3 yX3_age wsX3_age) := goodIn_app (goodIn_of _ (by decide +kernel)) ggX3_prune_X3_age
theorem dX3_prune_0 : decode cX3_prune 0 = .ok (.iload_n 1, 1) := by decide +kernel
theorem dX3_prune_1 : decode cX3_prune 1 = .ok (.invokestatic 52, 3) := by decide +kernel
theorem dX3_prune_4 : decode cX3_prune 4 = .ok (.ifCond .ne 5, 3) := by decide +kernel
theorem dX3_prune_7 : decode cX3_prune 7 = .ok (.iconst (-1), 1) := by decide +kernel
theorem dX3_prune_8 : decode cX3_prune 8 = .ok (.ireturn, 1) := by decide +kernel
theorem dX3_prune_9 : decode cX3_prune 9 = .ok (.iconst 0, 1) := by decide +kernel
theorem dX3_prune_10 : decode cX3_prune 10 = .ok (.istore_n 2, 1) := by decide +kernel
theorem dX3_prune_11 : decode cX3_prune 11 = .ok (.iconst 0, 1) := by decide +kernel
theorem dX3_prune_12 : decode cX3_prune 12 = .ok (.istore_n 3, 1) := by decide +kernel
theorem dX3_prune_13 : decode cX3_prune 13 = .ok (.iconst 0, 1) := by decide +kernel
theorem dX3_prune_14 : decode cX3_prune 14 = .ok (.istore 4, 2) := by decide +kernel
theorem dX3_prune_16 : decode cX3_prune 16 = .ok (.iload 4, 2) := by decide +kernel
theorem dX3_prune_18 : decode cX3_prune 18 = .ok (.aload_n 0, 1) := by decide +kernel
theorem dX3_prune_19 : decode cX3_prune 19 = .ok (.getfield 13, 3) := by decide +kernel
theorem dX3_prune_22 : decode cX3_prune 22 = .ok (.iload_n 1, 1) := by decide +kernel
theorem dX3_prune_23 : decode cX3_prune 23 = .ok (.iaload, 1) := by decide +kernel
theorem dX3_prune_24 : decode cX3_prune 24 = .ok (.if_icmp .ge 56, 3) := by decide +kernel
theorem dX3_prune_27 : decode cX3_prune 27 = .ok (.aload_n 0, 1) := by decide +kernel
theorem dX3_prune_28 : decode cX3_prune 28 = .ok (.iload_n 1, 1) := by decide +kernel
theorem dX3_prune_29 : decode cX3_prune 29 = .ok (.iload 4, 2) := by decide +kernel
theorem dX3_prune_31 : decode cX3_prune 31 = .ok (.invokevirtual 48, 3) := by decide +kernel
theorem dX3_prune_34 : decode cX3_prune 34 = .ok (.istore 5, 2) := by decide +kernel
theorem dX3_prune_36 : decode cX3_prune 36 = .ok (.iload_n 2, 1) := by decide +kernel
theorem dX3_prune_37 : decode cX3_prune 37 = .ok (.iload 5, 2) := by decide +kernel
theorem dX3_prune_39 : decode cX3_prune 39 = .ok (.bipush 10, 2) := by decide +kernel
theorem dX3_prune_41 : decode cX3_prune 41 = .ok (.irem, 1) := by decide +kernel
theorem dX3_prune_42 : decode cX3_prune 42 = .ok (.ishr, 1) := by decide +kernel
theorem dX3_prune_43 : decode cX3_prune 43 = .ok (.iconst 1, 1) := by decide +kernel
theorem dX3_prune_44 : decode cX3_prune 44 = .ok (.iand, 1) := by decide +kernel
theorem dX3_prune_45 : decode cX3_prune 45 = .ok (.ifCond .ne 19, 3) := by decide +kernel
theorem dX3_prune_48 : decode cX3_prune 48 = .ok (.aload_n 0, 1) := by decide +kernel
theorem dX3_prune_49 : decode cX3_prune 49 = .ok (.getfield 7, 3) := by decide +kernel
theorem dX3_prune_52 : decode cX3_prune 52 = .ok (.bipush 64, 2) := by decide +kernel
theorem dX3_prune_54 : decode cX3_prune 54 = .ok (.iload_n 1, 1) := by decide +kernel
theorem dX3_prune_55 : decode cX3_prune 55 = .ok (.imul, 1) := by decide +kernel
theorem dX3_prune_56 : decode cX3_prune 56 = .ok (.iload_n 3, 1) := by decide +kernel
theorem dX3_prune_57 : decode cX3_prune 57 = .ok (.iadd, 1) := by decide +kernel
theorem dX3_prune_58 : decode cX3_prune 58 = .ok (.iload 5, 2) := by decide +kernel
theorem dX3_prune_60 : decode cX3_prune 60 = .ok (.iastore, 1) := by decide +kernel
theorem dX3_prune_61 : decode cX3_prune 61 = .ok (.iinc 3 1, 3) := by decide +kernel
theorem dX3_prune_64 : decode cX3_prune 64 = .ok (.iload_n 2, 1) := by decide +kernel
theorem dX3_prune_65 : decode cX3_prune 65 = .ok (.iconst 1, 1) := by decide +kernel
theorem dX3_prune_66 : decode cX3_prune 66 = .ok (.iload 5, 2) := by decide +kernel
theorem dX3_prune_68 : decode cX3_prune 68 = .ok (.bipush 10, 2) := by decide +kernel
theorem dX3_prune_70 : decode cX3_prune 70 = .ok (.irem, 1) := by decide +kernel
theorem dX3_prune_71 : decode cX3_prune 71 = .ok (.ishl, 1) := by decide +kernel
theorem dX3_prune_72 : decode cX3_prune 72 = .ok (.ior, 1) := by decide +kernel
theorem dX3_prune_73 : decode cX3_prune 73 = .ok (.istore_n 2, 1) := by decide +kernel
theorem dX3_prune_74 : decode cX3_prune 74 = .ok (.iinc 4 1, 3) := by decide +kernel
theorem dX3_prune_77 : decode cX3_prune 77 = .ok (.goto (-61), 3) := by decide +kernel
theorem dX3_prune_80 : decode cX3_prune 80 = .ok (.aload_n 0, 1) := by decide +kernel
theorem dX3_prune_81 : decode cX3_prune 81 = .ok (.getfield 13, 3) := by decide +kernel
theorem dX3_prune_84 : decode cX3_prune 84 = .ok (.iload_n 1, 1) := by decide +kernel
theorem dX3_prune_85 : decode cX3_prune 85 = .ok (.iaload, 1) := by decide +kernel
theorem dX3_prune_86 : decode cX3_prune 86 = .ok (.iload_n 3, 1) := by decide +kernel
theorem dX3_prune_87 : decode cX3_prune 87 = .ok (.isub, 1) := by decide +kernel
theorem dX3_prune_88 : decode cX3_prune 88 = .ok (.istore 4, 2) := by decide +kernel
theorem dX3_prune_90 : decode cX3_prune 90 = .ok (.aload_n 0, 1) := by decide +kernel
theorem dX3_prune_91 : decode cX3_prune 91 = .ok (.getfield 13, 3) := by decide +kernel
theorem dX3_prune_94 : decode cX3_prune 94 = .ok (.iload_n 1, 1) := by decide +kernel
theorem dX3_prune_95 : decode cX3_prune 95 = .ok (.iload_n 3, 1) := by decide +kernel
theorem dX3_prune_96 : decode cX3_prune 96 = .ok (.iastore, 1) := by decide +kernel
theorem dX3_prune_97 : decode cX3_prune 97 = .ok (.iload 4, 2) := by decide +kernel
theorem dX3_prune_99 : decode cX3_prune 99 = .ok (.ifCond .le 9, 3) := by decide +kernel
theorem dX3_prune_102 : decode cX3_prune 102 = .ok (.aload_n 0, 1) := by decide +kernel
theorem dX3_prune_103 : decode cX3_prune 103 = .ok (.iload_n 1, 1) := by decide +kernel
theorem dX3_prune_104 : decode cX3_prune 104 = .ok (.iconst (-1), 1) := by decide +kernel
theorem dX3_prune_105 : decode cX3_prune 105 = .ok (.invokevirtual 67, 3) := by decide +kernel
theorem dX3_prune_108 : decode cX3_prune 108 = .ok (.iload 4, 2) := by decide +kernel
theorem dX3_prune_110 : decode cX3_prune 110 = .ok (.ireturn, 1) := by decide +kernel
set_option maxRecDepth 20000 in
theorem ggX3_size_X3_isRow : GoodIn wsX3_size wsX3_isRow := goodIn_r _ [5, 6, 7, 4, 8] (by decide +kernel) (by decide +kernel)
set_option maxRecDepth 20000 in
theorem gX3_size_X3_isRow : GoodIn wsX3_size (va_wsS RX3 52 yX3_isRow wsX3_isRow) := goodIn_app (goodIn_of _ (by decide +kernel)) ggX3_size_X3_isRow
theorem dX3_size_0 : decode cX3_size 0 = .ok (.iload_n 1, 1) := by decide +kernel
theorem dX3_size_1 : decode cX3_size 1 = .ok (.invokestatic 52, 3) := by decide +kernel
theorem dX3_size_4 : decode cX3_size 4 = .ok (.ifCond .eq 12, 3) := by decide +kernel
theorem dX3_size_7 : decode cX3_size 7 = .ok (.aload_n 0, 1) := by decide +kernel
theorem dX3_size_8 : decode cX3_size 8 = .ok (.getfield 13, 3) := by decide +kernel
theorem dX3_size_11 : decode cX3_size 11 = .ok (.iload_n 1, 1) := by decide +kernel
theorem dX3_size_12 : decode cX3_size 12 = .ok (.iaload, 1) := by decide +kernel
theorem dX3_size_13 : decode cX3_size 13 = .ok (.goto 4, 3) := by decide +kernel
theorem dX3_size_16 : decode cX3_size 16 = .ok (.iconst (-1), 1) := by decide +kernel
theorem dX3_size_17 : decode cX3_size 17 = .ok (.ireturn, 1) := by decide +kernel
set_option maxRecDepth 20000 in
theorem ggX3_sum_X3_isRow : GoodIn wsX3_sum wsX3_isRow := goodIn_r _ [6, 7, 8, 5, 9] (by decide +kernel) (by decide +kernel)
set_option maxRecDepth 20000 in
theorem gX3_sum_X3_isRow : GoodIn wsX3_sum (va_wsS RX3 52 yX3_isRow wsX3_isRow) := goodIn_app (goodIn_of _ (by decide +kernel)) ggX3_sum_X3_isRow
set_option maxRecDepth 20000 in
theorem ggX3_sum_X3_thing : GoodIn wsX3_sum wsX3_thing := goodIn_r _ [13, 14, 15, 16, 17, 18, 19, 20, 21, 22, 23, 24, 25] (by decide +kernel) (by decide +kernel)
set_option maxRecDepth 20000 in
theorem gX3_sum_X3_thing : GoodIn wsX3_sum (wsV RX3 48 RX3 yX3_thing wsX3_thing) := goodIn_app (goodIn_of _ (by decide +kernel)) ggX3_sum_X3_thing
theorem dX3_sum_0 : decode cX3_sum 0 = .ok (.iload_n 1, 1) := by decide +kernel
theorem dX3_sum_1 : decode cX3_sum 1 = .ok (.invokestatic 52, 3) := by decide +kernel
theorem dX3_sum_4 : decode cX3_sum 4 = .ok (.ifCond .ne 5, 3) := by decide +kernel
theorem dX3_sum_7 : decode cX3_sum 7 = .ok (.iconst (-1), 1) := by decide +kernel
theorem dX3_sum_8 : decode cX3_sum 8 = .ok (.ireturn, 1) := by decide +kernel
theorem dX3_sum_9 : decode cX3_sum 9 = .ok (.bipush 7, 2) := by decide +kernel
theorem dX3_sum_11 : decode cX3_sum 11 = .ok (.istore_n 2, 1) := by decide +kernel
theorem dX3_sum_12 : decode cX3_sum 12 = .ok (.iconst 0, 1) := by decide +kernel
theorem dX3_sum_13 : decode cX3_sum 13 = .ok (.istore_n 3, 1) := by decide +kernel
theorem dX3_sum_14 : decode cX3_sum 14 = .ok (.iload_n 3, 1) := by decide +kernel
theorem dX3_sum_15 : decode cX3_sum 15 = .ok (.aload_n 0, 1) := by decide +kernel
theorem dX3_sum_16 : decode cX3_sum 16 = .ok (.getfield 13, 3) := by decide +kernel
theorem dX3_sum_19 : decode cX3_sum 19 = .ok (.iload_n 1, 1) := by decide +kernel
theorem dX3_sum_20 : decode cX3_sum 20 = .ok (.iaload, 1) := by decide +kernel
theorem dX3_sum_21 : decode cX3_sum 21 = .ok (.if_icmp .ge 24, 3) := by decide +kernel
theorem dX3_sum_24 : decode cX3_sum 24 = .ok (.bipush 31, 2) := by decide +kernel
theorem dX3_sum_26 : decode cX3_sum 26 = .ok (.iload_n 2, 1) := by decide +kernel
theorem dX3_sum_27 : decode cX3_sum 27 = .ok (.imul, 1) := by decide +kernel
theorem dX3_sum_28 : decode cX3_sum 28 = .ok (.aload_n 0, 1) := by decide +kernel
theorem dX3_sum_29 : decode cX3_sum 29 = .ok (.iload_n 1, 1) := by decide +kernel
theorem dX3_sum_30 : decode cX3_sum 30 = .ok (.iload_n 3, 1) := by decide +kernel
theorem dX3_sum_31 : decode cX3_sum 31 = .ok (.invokevirtual 48, 3) := by decide +kernel
theorem dX3_sum_34 : decode cX3_sum 34 = .ok (.iadd, 1) := by decide +kernel
theorem dX3_sum_35 : decode cX3_sum 35 = .ok (.ldc 89, 2) := by decide +kernel
theorem dX3_sum_37 : decode cX3_sum 37 = .ok (.irem, 1) := by decide +kernel
theorem dX3_sum_38 : decode cX3_sum 38 = .ok (.istore_n 2, 1) := by decide +kernel
theorem dX3_sum_39 : decode cX3_sum 39 = .ok (.iinc 3 1, 3) := by decide +kernel
theorem dX3_sum_42 : decode cX3_sum 42 = .ok (.goto (-28), 3) := by decide +kernel
theorem dX3_sum_45 : decode cX3_sum 45 = .ok (.iload_n 2, 1) := by decide +kernel
theorem dX3_sum_46 : decode cX3_sum 46 = .ok (.ireturn, 1) := by decide +kernel
set_option maxRecDepth 20000 in
theorem ggX3_peg_X3_isPeg : GoodIn wsX3_peg wsX3_isPeg := goodIn_r _ [7, 8, 9, 6, 10] (by decide +kernel) (by decide +kernel)
set_option maxRecDepth 20000 in
theorem gX3_peg_X3_isPeg : GoodIn wsX3_peg (va_wsS RX3 90 yX3_isPeg wsX3_isPeg) := goodIn_app (goodIn_of _ (by decide +kernel)) ggX3_peg_X3_isPeg
set_option maxRecDepth 20000 in
theorem ggX3_peg_X3_isRow : GoodIn wsX3_peg wsX3_isRow := goodIn_r _ [13, 8, 9, 6, 10] (by decide +kernel) (by decide +kernel)
set_option maxRecDepth 20000 in
theorem gX3_peg_X3_isRow : GoodIn wsX3_peg (va_wsS RX3 52 yX3_isRow wsX3_isRow) := goodIn_app (goodIn_of _ (by decide +kernel)) ggX3_peg_X3_isRow
set_option maxRecDepth 20000 in
theorem ggX3_peg_X3_in : GoodIn wsX3_peg wsX3_in := goodIn_r _ [10] (by decide +kernel) (by decide +kernel)
set_option maxRecDepth 20000 in
theorem gX3_peg_X3_in : GoodIn wsX3_peg (va_wsS RX3 40 yX3_in wsX3_in) := goodIn_app (goodIn_of _ (by decide +kernel)) ggX3_peg_X3_in
set_option maxRecDepth 20000 in
theorem ggX3_peg_X3_refuse : GoodIn wsX3_peg wsX3_refuse := goodIn_r _ [17, 18, 26, 27, 28, 29, 30, 31, 32, 33, 34, 35, 36] (by decide +kernel) (by decide +kernel)
set_option maxRecDepth 20000 in
theorem gX3_peg_X3_refuse : GoodIn wsX3_peg (wsV RX3 71 RX3 yX3_refuse wsX3_refuse) := goodIn_app (goodIn_of _ (by decide +kernel)) ggX3_peg_X3_refuse
set_option maxRecDepth 20000 in
theorem ggX3_peg_X3_leave : GoodIn wsX3_peg wsX3_leave := goodIn_r _ [22, 2, 23, 24, 25, 26, 27, 28, 29, 30, 31, 32, 33, 34, 35, 36] (by decide +kernel) (by decide +kernel)
set_option maxRecDepth 20000 in
theorem gX3_peg_X3_leave : GoodIn wsX3_peg (wsV RX3 85 RX3 yX3_leave wsX3_leave) := goodIn_app (goodIn_of _ (by decide +kernel)) ggX3_peg_X3_leave
theorem dX3_peg_0 : decode cX3_peg 0 = .ok (.iload_n 1, 1) := by decide +kernel
theorem dX3_peg_1 : decode cX3_peg 1 = .ok (.invokestatic 90, 3) := by decide +kernel
theorem dX3_peg_4 : decode cX3_peg 4 = .ok (.ifCond .eq 10, 3) := by decide +kernel
theorem dX3_peg_7 : decode cX3_peg 7 = .ok (.iload_n 2, 1) := by decide +kernel
theorem dX3_peg_8 : decode cX3_peg 8 = .ok (.invokestatic 52, 3) := by decide +kernel
theorem dX3_peg_11 : decode cX3_peg 11 = .ok (.ifCond .ne 5, 3) := by decide +kernel
theorem dX3_peg_14 : decode cX3_peg 14 = .ok (.iconst (-1), 1) := by decide +kernel
theorem dX3_peg_15 : decode cX3_peg 15 = .ok (.ireturn, 1) := by decide +kernel
theorem dX3_peg_16 : decode cX3_peg 16 = .ok (.iload_n 3, 1) := by decide +kernel
theorem dX3_peg_17 : decode cX3_peg 17 = .ok (.iconst 0, 1) := by decide +kernel
theorem dX3_peg_18 : decode cX3_peg 18 = .ok (.aload_n 0, 1) := by decide +kernel
theorem dX3_peg_19 : decode cX3_peg 19 = .ok (.getfield 13, 3) := by decide +kernel
theorem dX3_peg_22 : decode cX3_peg 22 = .ok (.iload_n 2, 1) := by decide +kernel
theorem dX3_peg_23 : decode cX3_peg 23 = .ok (.iaload, 1) := by decide +kernel
theorem dX3_peg_24 : decode cX3_peg 24 = .ok (.invokestatic 40, 3) := by decide +kernel
theorem dX3_peg_27 : decode cX3_peg 27 = .ok (.ifCond .ne 11, 3) := by decide +kernel
theorem dX3_peg_30 : decode cX3_peg 30 = .ok (.aload_n 0, 1) := by decide +kernel
theorem dX3_peg_31 : decode cX3_peg 31 = .ok (.iconst 1, 1) := by decide +kernel
theorem dX3_peg_32 : decode cX3_peg 32 = .ok (.bipush (-5), 2) := by decide +kernel
theorem dX3_peg_34 : decode cX3_peg 34 = .ok (.invokevirtual 71, 3) := by decide +kernel
theorem dX3_peg_37 : decode cX3_peg 37 = .ok (.ireturn, 1) := by decide +kernel
theorem dX3_peg_38 : decode cX3_peg 38 = .ok (.aload_n 0, 1) := by decide +kernel
theorem dX3_peg_39 : decode cX3_peg 39 = .ok (.iload_n 1, 1) := by decide +kernel
theorem dX3_peg_40 : decode cX3_peg 40 = .ok (.invokevirtual 85, 3) := by decide +kernel
theorem dX3_peg_43 : decode cX3_peg 43 = .ok (.aload_n 0, 1) := by decide +kernel
theorem dX3_peg_44 : decode cX3_peg 44 = .ok (.getfield 19, 3) := by decide +kernel
theorem dX3_peg_47 : decode cX3_peg 47 = .ok (.iload_n 1, 1) := by decide +kernel
theorem dX3_peg_48 : decode cX3_peg 48 = .ok (.iload_n 2, 1) := by decide +kernel
theorem dX3_peg_49 : decode cX3_peg 49 = .ok (.iastore, 1) := by decide +kernel
theorem dX3_peg_50 : decode cX3_peg 50 = .ok (.aload_n 0, 1) := by decide +kernel
theorem dX3_peg_51 : decode cX3_peg 51 = .ok (.getfield 22, 3) := by decide +kernel
theorem dX3_peg_54 : decode cX3_peg 54 = .ok (.iload_n 1, 1) := by decide +kernel
theorem dX3_peg_55 : decode cX3_peg 55 = .ok (.iload_n 3, 1) := by decide +kernel
theorem dX3_peg_56 : decode cX3_peg 56 = .ok (.iastore, 1) := by decide +kernel
theorem dX3_peg_57 : decode cX3_peg 57 = .ok (.iload_n 3, 1) := by decide +kernel
theorem dX3_peg_58 : decode cX3_peg 58 = .ok (.ireturn, 1) := by decide +kernel
set_option maxRecDepth 20000 in
theorem ggX3_bars_X3_refuse : GoodIn wsX3_bars wsX3_refuse := goodIn_r _ [7, 8, 9, 10, 11, 12, 13, 14, 15, 16, 17, 18, 19] (by decide +kernel) (by decide +kernel)
set_option maxRecDepth 20000 in
theorem gX3_bars_X3_refuse : GoodIn wsX3_bars (wsV RX3 71 RX3 yX3_refuse wsX3_refuse) := goodIn_app (goodIn_of _ (by decide +kernel)) ggX3_bars_X3_refuse
theorem dX3_bars_0 : decode cX3_bars 0 = .ok (.aload_n 0, 1) := by decide +kernel
theorem dX3_bars_1 : decode cX3_bars 1 = .ok (.getfield 19, 3) := by decide +kernel
theorem dX3_bars_4 : decode cX3_bars 4 = .ok (.iload_n 1, 1) := by decide +kernel
theorem dX3_bars_5 : decode cX3_bars 5 = .ok (.iaload, 1) := by decide +kernel
theorem dX3_bars_6 : decode cX3_bars 6 = .ok (.iconst (-1), 1) := by decide +kernel
theorem dX3_bars_7 : decode cX3_bars 7 = .ok (.if_icmp .ne 6, 3) := by decide +kernel
theorem dX3_bars_10 : decode cX3_bars 10 = .ok (.bipush (-2), 2) := by decide +kernel
theorem dX3_bars_12 : decode cX3_bars 12 = .ok (.ireturn, 1) := by decide +kernel
theorem dX3_bars_13 : decode cX3_bars 13 = .ok (.aload_n 0, 1) := by decide +kernel
theorem dX3_bars_14 : decode cX3_bars 14 = .ok (.getfield 34, 3) := by decide +kernel
theorem dX3_bars_17 : decode cX3_bars 17 = .ok (.iload_n 1, 1) := by decide +kernel
theorem dX3_bars_18 : decode cX3_bars 18 = .ok (.iaload, 1) := by decide +kernel
theorem dX3_bars_19 : decode cX3_bars 19 = .ok (.iconst 1, 1) := by decide +kernel
theorem dX3_bars_20 : decode cX3_bars 20 = .ok (.if_icmp .ne 13, 3) := by decide +kernel
theorem dX3_bars_23 : decode cX3_bars 23 = .ok (.aload_n 0, 1) := by decide +kernel
theorem dX3_bars_24 : decode cX3_bars 24 = .ok (.iconst 3, 1) := by decide +kernel
theorem dX3_bars_25 : decode cX3_bars 25 = .ok (.bipush (-4), 2) := by decide +kernel
theorem dX3_bars_27 : decode cX3_bars 27 = .ok (.invokevirtual 71, 3) := by decide +kernel
theorem dX3_bars_30 : decode cX3_bars 30 = .ok (.goto 4, 3) := by decide +kernel
theorem dX3_bars_33 : decode cX3_bars 33 = .ok (.iconst 0, 1) := by decide +kernel
theorem dX3_bars_34 : decode cX3_bars 34 = .ok (.ireturn, 1) := by decide +kernel
set_option maxRecDepth 20000 in
theorem ggX3_goes_X3_in : GoodIn wsX3_goes wsX3_in := goodIn_r _ [10] (by decide +kernel) (by decide +kernel)
set_option maxRecDepth 20000 in
theorem gX3_goes_X3_in : GoodIn wsX3_goes (va_wsS RX3 40 yX3_in wsX3_in) := goodIn_app (goodIn_of _ (by decide +kernel)) ggX3_goes_X3_in
set_option maxRecDepth 20000 in
theorem ggX3_goes_X3_refuse : GoodIn wsX3_goes wsX3_refuse := goodIn_r _ [14, 15, 21, 22, 23, 24, 25, 26, 27, 28, 29, 30, 31] (by decide +kernel) (by decide +kernel)
set_option maxRecDepth 20000 in
theorem gX3_goes_X3_refuse : GoodIn wsX3_goes (wsV RX3 71 RX3 yX3_refuse wsX3_refuse) := goodIn_app (goodIn_of _ (by decide +kernel)) ggX3_goes_X3_refuse
set_option maxRecDepth 20000 in
theorem ggX3_goes_X3_thing : GoodIn wsX3_goes wsX3_thing := goodIn_r _ [19, 20, 21, 22, 23, 24, 25, 26, 27, 28, 29, 30, 31] (by decide +kernel) (by decide +kernel)
set_option maxRecDepth 20000 in
theorem gX3_goes_X3_thing : GoodIn wsX3_goes (wsV RX3 48 RX3 yX3_thing wsX3_thing) := goodIn_app (goodIn_of _ (by decide +kernel)) ggX3_goes_X3_thing
theorem dX3_goes_0 : decode cX3_goes 0 = .ok (.aload_n 0, 1) := by decide +kernel
theorem dX3_goes_1 : decode cX3_goes 1 = .ok (.getfield 19, 3) := by decide +kernel
theorem dX3_goes_4 : decode cX3_goes 4 = .ok (.iload_n 1, 1) := by decide +kernel
theorem dX3_goes_5 : decode cX3_goes 5 = .ok (.iaload, 1) := by decide +kernel
theorem dX3_goes_6 : decode cX3_goes 6 = .ok (.istore 4, 2) := by decide +kernel
theorem dX3_goes_8 : decode cX3_goes 8 = .ok (.iload_n 2, 1) := by decide +kernel
theorem dX3_goes_9 : decode cX3_goes 9 = .ok (.iconst 0, 1) := by decide +kernel
theorem dX3_goes_10 : decode cX3_goes 10 = .ok (.aload_n 0, 1) := by decide +kernel
theorem dX3_goes_11 : decode cX3_goes 11 = .ok (.getfield 13, 3) := by decide +kernel
theorem dX3_goes_14 : decode cX3_goes 14 = .ok (.iload 4, 2) := by decide +kernel
theorem dX3_goes_16 : decode cX3_goes 16 = .ok (.iaload, 1) := by decide +kernel
theorem dX3_goes_17 : decode cX3_goes 17 = .ok (.iconst 1, 1) := by decide +kernel
theorem dX3_goes_18 : decode cX3_goes 18 = .ok (.isub, 1) := by decide +kernel
theorem dX3_goes_19 : decode cX3_goes 19 = .ok (.invokestatic 40, 3) := by decide +kernel
theorem dX3_goes_22 : decode cX3_goes 22 = .ok (.ifCond .ne 18, 3) := by decide +kernel
theorem dX3_goes_25 : decode cX3_goes 25 = .ok (.aload_n 0, 1) := by decide +kernel
theorem dX3_goes_26 : decode cX3_goes 26 = .ok (.getfield 31, 3) := by decide +kernel
theorem dX3_goes_29 : decode cX3_goes 29 = .ok (.iload_n 1, 1) := by decide +kernel
theorem dX3_goes_30 : decode cX3_goes 30 = .ok (.iconst 1, 1) := by decide +kernel
theorem dX3_goes_31 : decode cX3_goes 31 = .ok (.iastore, 1) := by decide +kernel
theorem dX3_goes_32 : decode cX3_goes 32 = .ok (.aload_n 0, 1) := by decide +kernel
theorem dX3_goes_33 : decode cX3_goes 33 = .ok (.iconst 0, 1) := by decide +kernel
theorem dX3_goes_34 : decode cX3_goes 34 = .ok (.bipush (-6), 2) := by decide +kernel
theorem dX3_goes_36 : decode cX3_goes 36 = .ok (.invokevirtual 71, 3) := by decide +kernel
theorem dX3_goes_39 : decode cX3_goes 39 = .ok (.ireturn, 1) := by decide +kernel
theorem dX3_goes_40 : decode cX3_goes 40 = .ok (.aload_n 0, 1) := by decide +kernel
theorem dX3_goes_41 : decode cX3_goes 41 = .ok (.getfield 25, 3) := by decide +kernel
theorem dX3_goes_44 : decode cX3_goes 44 = .ok (.iload_n 1, 1) := by decide +kernel
theorem dX3_goes_45 : decode cX3_goes 45 = .ok (.aload_n 0, 1) := by decide +kernel
theorem dX3_goes_46 : decode cX3_goes 46 = .ok (.iload 4, 2) := by decide +kernel
theorem dX3_goes_48 : decode cX3_goes 48 = .ok (.iload_n 2, 1) := by decide +kernel
theorem dX3_goes_49 : decode cX3_goes 49 = .ok (.invokevirtual 48, 3) := by decide +kernel
theorem dX3_goes_52 : decode cX3_goes 52 = .ok (.iastore, 1) := by decide +kernel
theorem dX3_goes_53 : decode cX3_goes 53 = .ok (.aload_n 0, 1) := by decide +kernel
theorem dX3_goes_54 : decode cX3_goes 54 = .ok (.getfield 28, 3) := by decide +kernel
theorem dX3_goes_57 : decode cX3_goes 57 = .ok (.iload_n 1, 1) := by decide +kernel
theorem dX3_goes_58 : decode cX3_goes 58 = .ok (.iload_n 2, 1) := by decide +kernel
theorem dX3_goes_59 : decode cX3_goes 59 = .ok (.iastore, 1) := by decide +kernel
theorem dX3_goes_60 : decode cX3_goes 60 = .ok (.aload_n 0, 1) := by decide +kernel
theorem dX3_goes_61 : decode cX3_goes 61 = .ok (.getfield 31, 3) := by decide +kernel
theorem dX3_goes_64 : decode cX3_goes 64 = .ok (.iload_n 1, 1) := by decide +kernel
theorem dX3_goes_65 : decode cX3_goes 65 = .ok (.iconst 0, 1) := by decide +kernel
theorem dX3_goes_66 : decode cX3_goes 66 = .ok (.iastore, 1) := by decide +kernel
theorem dX3_goes_67 : decode cX3_goes 67 = .ok (.aload_n 0, 1) := by decide +kernel
theorem dX3_goes_68 : decode cX3_goes 68 = .ok (.getfield 22, 3) := by decide +kernel
theorem dX3_goes_71 : decode cX3_goes 71 = .ok (.iload_n 1, 1) := by decide +kernel
theorem dX3_goes_72 : decode cX3_goes 72 = .ok (.iload_n 3, 1) := by decide +kernel
theorem dX3_goes_73 : decode cX3_goes 73 = .ok (.iastore, 1) := by decide +kernel
theorem dX3_goes_74 : decode cX3_goes 74 = .ok (.aload_n 0, 1) := by decide +kernel
theorem dX3_goes_75 : decode cX3_goes 75 = .ok (.getfield 25, 3) := by decide +kernel
theorem dX3_goes_78 : decode cX3_goes 78 = .ok (.iload_n 1, 1) := by decide +kernel
theorem dX3_goes_79 : decode cX3_goes 79 = .ok (.iaload, 1) := by decide +kernel
theorem dX3_goes_80 : decode cX3_goes 80 = .ok (.ireturn, 1) := by decide +kernel
set_option maxRecDepth 20000 in
theorem ggX3_next_X3_isPeg : GoodIn wsX3_next wsX3_isPeg := goodIn_r _ [5, 6, 7, 4, 8] (by decide +kernel) (by decide +kernel)
set_option maxRecDepth 20000 in
theorem gX3_next_X3_isPeg : GoodIn wsX3_next (va_wsS RX3 90 yX3_isPeg wsX3_isPeg) := goodIn_app (goodIn_of _ (by decide +kernel)) ggX3_next_X3_isPeg
set_option maxRecDepth 20000 in
theorem ggX3_next_X3_bars : GoodIn wsX3_next wsX3_bars := goodIn_r _ [12, 13, 14, 15, 16, 17, 4, 18, 19, 33, 34, 35, 36, 37, 38, 39, 40, 41, 42, 43] (by decide +kernel) (by decide +kernel)
set_option maxRecDepth 20000 in
theorem gX3_next_X3_bars : GoodIn wsX3_next (wsV RX3 93 RX3 yX3_bars wsX3_bars) := goodIn_app (goodIn_of _ (by decide +kernel)) ggX3_next_X3_bars
set_option maxRecDepth 20000 in
theorem ggX3_next_X3_goes : GoodIn wsX3_next wsX3_goes := goodIn_r _ [23, 13, 24, 25, 26, 27, 1, 6, 7, 4, 8, 15, 16, 17, 18, 19, 28, 29, 30, 31, 32, 33, 34, 35, 36, 37, 38, 39, 40, 41, 42, 43] (by decide +kernel) (by decide +kernel)
set_option maxRecDepth 20000 in
theorem gX3_next_X3_goes : GoodIn wsX3_next (wsV RX3 96 RX3 yX3_goes wsX3_goes) := goodIn_app (goodIn_of _ (by decide +kernel)) ggX3_next_X3_goes
theorem dX3_next_0 : decode cX3_next 0 = .ok (.iload_n 1, 1) := by decide +kernel
theorem dX3_next_1 : decode cX3_next 1 = .ok (.invokestatic 90, 3) := by decide +kernel
theorem dX3_next_4 : decode cX3_next 4 = .ok (.ifCond .ne 5, 3) := by decide +kernel
theorem dX3_next_7 : decode cX3_next 7 = .ok (.iconst (-1), 1) := by decide +kernel
theorem dX3_next_8 : decode cX3_next 8 = .ok (.ireturn, 1) := by decide +kernel
theorem dX3_next_9 : decode cX3_next 9 = .ok (.aload_n 0, 1) := by decide +kernel
theorem dX3_next_10 : decode cX3_next 10 = .ok (.iload_n 1, 1) := by decide +kernel
theorem dX3_next_11 : decode cX3_next 11 = .ok (.invokevirtual 93, 3) := by decide +kernel
theorem dX3_next_14 : decode cX3_next 14 = .ok (.istore_n 2, 1) := by decide +kernel
theorem dX3_next_15 : decode cX3_next 15 = .ok (.iload_n 2, 1) := by decide +kernel
theorem dX3_next_16 : decode cX3_next 16 = .ok (.ifCond .ge 7, 3) := by decide +kernel
theorem dX3_next_19 : decode cX3_next 19 = .ok (.iload_n 2, 1) := by decide +kernel
theorem dX3_next_20 : decode cX3_next 20 = .ok (.goto 22, 3) := by decide +kernel
theorem dX3_next_23 : decode cX3_next 23 = .ok (.aload_n 0, 1) := by decide +kernel
theorem dX3_next_24 : decode cX3_next 24 = .ok (.iload_n 1, 1) := by decide +kernel
theorem dX3_next_25 : decode cX3_next 25 = .ok (.aload_n 0, 1) := by decide +kernel
theorem dX3_next_26 : decode cX3_next 26 = .ok (.getfield 22, 3) := by decide +kernel
theorem dX3_next_29 : decode cX3_next 29 = .ok (.iload_n 1, 1) := by decide +kernel
theorem dX3_next_30 : decode cX3_next 30 = .ok (.iaload, 1) := by decide +kernel
theorem dX3_next_31 : decode cX3_next 31 = .ok (.aload_n 0, 1) := by decide +kernel
theorem dX3_next_32 : decode cX3_next 32 = .ok (.getfield 22, 3) := by decide +kernel
theorem dX3_next_35 : decode cX3_next 35 = .ok (.iload_n 1, 1) := by decide +kernel
theorem dX3_next_36 : decode cX3_next 36 = .ok (.iaload, 1) := by decide +kernel
theorem dX3_next_37 : decode cX3_next 37 = .ok (.iconst 1, 1) := by decide +kernel
theorem dX3_next_38 : decode cX3_next 38 = .ok (.iadd, 1) := by decide +kernel
theorem dX3_next_39 : decode cX3_next 39 = .ok (.invokevirtual 96, 3) := by decide +kernel
theorem dX3_next_42 : decode cX3_next 42 = .ok (.ireturn, 1) := by decide +kernel
set_option maxRecDepth 20000 in
theorem ggX3_previous_X3_isPeg : GoodIn wsX3_previous wsX3_isPeg := goodIn_r _ [5, 6, 7, 4, 8] (by decide +kernel) (by decide +kernel)
set_option maxRecDepth 20000 in
theorem gX3_previous_X3_isPeg : GoodIn wsX3_previous (va_wsS RX3 90 yX3_isPeg wsX3_isPeg) := goodIn_app (goodIn_of _ (by decide +kernel)) ggX3_previous_X3_isPeg
set_option maxRecDepth 20000 in
theorem ggX3_previous_X3_bars : GoodIn wsX3_previous wsX3_bars := goodIn_r _ [12, 13, 14, 15, 16, 17, 4, 18, 19, 33, 34, 35, 36, 37, 38, 39, 40, 41, 42, 43] (by decide +kernel) (by decide +kernel)
set_option maxRecDepth 20000 in
theorem gX3_previous_X3_bars : GoodIn wsX3_previous (wsV RX3 93 RX3 yX3_bars wsX3_bars) := goodIn_app (goodIn_of _ (by decide +kernel)) ggX3_previous_X3_bars
set_option maxRecDepth 20000 in
theorem ggX3_previous_X3_goes : GoodIn wsX3_previous wsX3_goes := goodIn_r _ [23, 13, 24, 25, 26, 27, 1, 6, 7, 4, 8, 15, 16, 17, 18, 19, 28, 29, 30, 31, 32, 33, 34, 35, 36, 37, 38, 39, 40, 41, 42, 43] (by decide +kernel) (by decide +kernel)
set_option maxRecDepth 20000 in
theorem gX3_previous_X3_goes : GoodIn wsX3_previous (wsV RX3 96 RX3 yX3_goes wsX3_goes) := goodIn_app (goodIn_of _ (by decide +kernel)) ggX3_previous_X3_goes
theorem dX3_previous_0 : decode cX3_previous 0 = .ok (.iload_n 1, 1) := by decide +kernel
theorem dX3_previous_1 : decode cX3_previous 1 = .ok (.invokestatic 90, 3) := by decide +kernel
theorem dX3_previous_4 : decode cX3_previous 4 = .ok (.ifCond .ne 5, 3) := by decide +kernel
theorem dX3_previous_7 : decode cX3_previous 7 = .ok (.iconst (-1), 1) := by decide +kernel
theorem dX3_previous_8 : decode cX3_previous 8 = .ok (.ireturn, 1) := by decide +kernel
theorem dX3_previous_9 : decode cX3_previous 9 = .ok (.aload_n 0, 1) := by decide +kernel
theorem dX3_previous_10 : decode cX3_previous 10 = .ok (.iload_n 1, 1) := by decide +kernel
theorem dX3_previous_11 : decode cX3_previous 11 = .ok (.invokevirtual 93, 3) := by decide +kernel
theorem dX3_previous_14 : decode cX3_previous 14 = .ok (.istore_n 2, 1) := by decide +kernel
theorem dX3_previous_15 : decode cX3_previous 15 = .ok (.iload_n 2, 1) := by decide +kernel
theorem dX3_previous_16 : decode cX3_previous 16 = .ok (.ifCond .ge 7, 3) := by decide +kernel
theorem dX3_previous_19 : decode cX3_previous 19 = .ok (.iload_n 2, 1) := by decide +kernel
theorem dX3_previous_20 : decode cX3_previous 20 = .ok (.goto 24, 3) := by decide +kernel
theorem dX3_previous_23 : decode cX3_previous 23 = .ok (.aload_n 0, 1) := by decide +kernel
theorem dX3_previous_24 : decode cX3_previous 24 = .ok (.iload_n 1, 1) := by decide +kernel
theorem dX3_previous_25 : decode cX3_previous 25 = .ok (.aload_n 0, 1) := by decide +kernel
theorem dX3_previous_26 : decode cX3_previous 26 = .ok (.getfield 22, 3) := by decide +kernel
theorem dX3_previous_29 : decode cX3_previous 29 = .ok (.iload_n 1, 1) := by decide +kernel
theorem dX3_previous_30 : decode cX3_previous 30 = .ok (.iaload, 1) := by decide +kernel
theorem dX3_previous_31 : decode cX3_previous 31 = .ok (.iconst 1, 1) := by decide +kernel
theorem dX3_previous_32 : decode cX3_previous 32 = .ok (.isub, 1) := by decide +kernel
theorem dX3_previous_33 : decode cX3_previous 33 = .ok (.aload_n 0, 1) := by decide +kernel
theorem dX3_previous_34 : decode cX3_previous 34 = .ok (.getfield 22, 3) := by decide +kernel
theorem dX3_previous_37 : decode cX3_previous 37 = .ok (.iload_n 1, 1) := by decide +kernel
theorem dX3_previous_38 : decode cX3_previous 38 = .ok (.iaload, 1) := by decide +kernel
theorem dX3_previous_39 : decode cX3_previous 39 = .ok (.iconst 1, 1) := by decide +kernel
theorem dX3_previous_40 : decode cX3_previous 40 = .ok (.isub, 1) := by decide +kernel
theorem dX3_previous_41 : decode cX3_previous 41 = .ok (.invokevirtual 96, 3) := by decide +kernel
theorem dX3_previous_44 : decode cX3_previous 44 = .ok (.ireturn, 1) := by decide +kernel
set_option maxRecDepth 20000 in
theorem ggX3_side_X3_isPeg : GoodIn wsX3_side wsX3_isPeg := goodIn_r _ [8, 9, 10, 7, 11] (by decide +kernel) (by decide +kernel)
set_option maxRecDepth 20000 in
theorem gX3_side_X3_isPeg : GoodIn wsX3_side (va_wsS RX3 90 yX3_isPeg wsX3_isPeg) := goodIn_app (goodIn_of _ (by decide +kernel)) ggX3_side_X3_isPeg
set_option maxRecDepth 20000 in
theorem ggX3_side_X3_in : GoodIn wsX3_side wsX3_in := goodIn_r _ [11] (by decide +kernel) (by decide +kernel)
set_option maxRecDepth 20000 in
theorem gX3_side_X3_in : GoodIn wsX3_side (va_wsS RX3 40 yX3_in wsX3_in) := goodIn_app (goodIn_of _ (by decide +kernel)) ggX3_side_X3_in
theorem dX3_side_0 : decode cX3_side 0 = .ok (.iload_n 1, 1) := by decide +kernel
theorem dX3_side_1 : decode cX3_side 1 = .ok (.invokestatic 90, 3) := by decide +kernel
theorem dX3_side_4 : decode cX3_side 4 = .ok (.ifCond .eq 12, 3) := by decide +kernel
theorem dX3_side_7 : decode cX3_side 7 = .ok (.iload_n 2, 1) := by decide +kernel
theorem dX3_side_8 : decode cX3_side 8 = .ok (.iconst 0, 1) := by decide +kernel
theorem dX3_side_9 : decode cX3_side 9 = .ok (.iconst 3, 1) := by decide +kernel
theorem dX3_side_10 : decode cX3_side 10 = .ok (.invokestatic 40, 3) := by decide +kernel
theorem dX3_side_13 : decode cX3_side 13 = .ok (.ifCond .ne 5, 3) := by decide +kernel
theorem dX3_side_16 : decode cX3_side 16 = .ok (.iconst (-1), 1) := by decide +kernel
theorem dX3_side_17 : decode cX3_side 17 = .ok (.ireturn, 1) := by decide +kernel
theorem dX3_side_18 : decode cX3_side 18 = .ok (.aload_n 0, 1) := by decide +kernel
theorem dX3_side_19 : decode cX3_side 19 = .ok (.getfield 19, 3) := by decide +kernel
theorem dX3_side_22 : decode cX3_side 22 = .ok (.iload_n 1, 1) := by decide +kernel
theorem dX3_side_23 : decode cX3_side 23 = .ok (.iaload, 1) := by decide +kernel
theorem dX3_side_24 : decode cX3_side 24 = .ok (.iconst (-1), 1) := by decide +kernel
theorem dX3_side_25 : decode cX3_side 25 = .ok (.if_icmp .ne 6, 3) := by decide +kernel
theorem dX3_side_28 : decode cX3_side 28 = .ok (.bipush (-2), 2) := by decide +kernel
theorem dX3_side_30 : decode cX3_side 30 = .ok (.ireturn, 1) := by decide +kernel
theorem dX3_side_31 : decode cX3_side 31 = .ok (.aload_n 0, 1) := by decide +kernel
theorem dX3_side_32 : decode cX3_side 32 = .ok (.getfield 34, 3) := by decide +kernel
theorem dX3_side_35 : decode cX3_side 35 = .ok (.iload_n 1, 1) := by decide +kernel
theorem dX3_side_36 : decode cX3_side 36 = .ok (.iaload, 1) := by decide +kernel
theorem dX3_side_37 : decode cX3_side 37 = .ok (.iconst 1, 1) := by decide +kernel
theorem dX3_side_38 : decode cX3_side 38 = .ok (.if_icmp .ne 6, 3) := by decide +kernel
theorem dX3_side_41 : decode cX3_side 41 = .ok (.bipush (-4), 2) := by decide +kernel
theorem dX3_side_43 : decode cX3_side 43 = .ok (.ireturn, 1) := by decide +kernel
theorem dX3_side_44 : decode cX3_side 44 = .ok (.iload_n 2, 1) := by decide +kernel
theorem dX3_side_45 : decode cX3_side 45 = .ok (.iconst 1, 1) := by decide +kernel
theorem dX3_side_46 : decode cX3_side 46 = .ok (.if_icmp .le 10, 3) := by decide +kernel
theorem dX3_side_49 : decode cX3_side 49 = .ok (.aload_n 0, 1) := by decide +kernel
theorem dX3_side_50 : decode cX3_side 50 = .ok (.getfield 22, 3) := by decide +kernel
theorem dX3_side_53 : decode cX3_side 53 = .ok (.iload_n 1, 1) := by decide +kernel
theorem dX3_side_54 : decode cX3_side 54 = .ok (.iaload, 1) := by decide +kernel
theorem dX3_side_55 : decode cX3_side 55 = .ok (.ireturn, 1) := by decide +kernel
theorem dX3_side_56 : decode cX3_side 56 = .ok (.iload_n 2, 1) := by decide +kernel
theorem dX3_side_57 : decode cX3_side 57 = .ok (.ifCond .ne 31, 3) := by decide +kernel
theorem dX3_side_60 : decode cX3_side 60 = .ok (.aload_n 0, 1) := by decide +kernel
theorem dX3_side_61 : decode cX3_side 61 = .ok (.getfield 22, 3) := by decide +kernel
theorem dX3_side_64 : decode cX3_side 64 = .ok (.iload_n 1, 1) := by decide +kernel
theorem dX3_side_65 : decode cX3_side 65 = .ok (.iaload, 1) := by decide +kernel
theorem dX3_side_66 : decode cX3_side 66 = .ok (.aload_n 0, 1) := by decide +kernel
theorem dX3_side_67 : decode cX3_side 67 = .ok (.getfield 13, 3) := by decide +kernel
theorem dX3_side_70 : decode cX3_side 70 = .ok (.aload_n 0, 1) := by decide +kernel
theorem dX3_side_71 : decode cX3_side 71 = .ok (.getfield 19, 3) := by decide +kernel
theorem dX3_side_74 : decode cX3_side 74 = .ok (.iload_n 1, 1) := by decide +kernel
theorem dX3_side_75 : decode cX3_side 75 = .ok (.iaload, 1) := by decide +kernel
theorem dX3_side_76 : decode cX3_side 76 = .ok (.iaload, 1) := by decide +kernel
theorem dX3_side_77 : decode cX3_side 77 = .ok (.if_icmp .ge 7, 3) := by decide +kernel
theorem dX3_side_80 : decode cX3_side 80 = .ok (.iconst 1, 1) := by decide +kernel
theorem dX3_side_81 : decode cX3_side 81 = .ok (.goto 21, 3) := by decide +kernel
theorem dX3_side_84 : decode cX3_side 84 = .ok (.iconst 0, 1) := by decide +kernel
theorem dX3_side_85 : decode cX3_side 85 = .ok (.goto 17, 3) := by decide +kernel
theorem dX3_side_88 : decode cX3_side 88 = .ok (.aload_n 0, 1) := by decide +kernel
theorem dX3_side_89 : decode cX3_side 89 = .ok (.getfield 22, 3) := by decide +kernel
theorem dX3_side_92 : decode cX3_side 92 = .ok (.iload_n 1, 1) := by decide +kernel
theorem dX3_side_93 : decode cX3_side 93 = .ok (.iaload, 1) := by decide +kernel
theorem dX3_side_94 : decode cX3_side 94 = .ok (.ifCond .le 7, 3) := by decide +kernel
theorem dX3_side_97 : decode cX3_side 97 = .ok (.iconst 1, 1) := by decide +kernel
theorem dX3_side_98 : decode cX3_side 98 = .ok (.goto 4, 3) := by decide +kernel
theorem dX3_side_101 : decode cX3_side 101 = .ok (.iconst 0, 1) := by decide +kernel
theorem dX3_side_102 : decode cX3_side 102 = .ok (.istore_n 3, 1) := by decide +kernel
theorem dX3_side_103 : decode cX3_side 103 = .ok (.iload_n 3, 1) := by decide +kernel
theorem dX3_side_104 : decode cX3_side 104 = .ok (.ifCond .eq 7, 3) := by decide +kernel
theorem dX3_side_107 : decode cX3_side 107 = .ok (.iconst 1, 1) := by decide +kernel
theorem dX3_side_108 : decode cX3_side 108 = .ok (.goto 4, 3) := by decide +kernel
theorem dX3_side_111 : decode cX3_side 111 = .ok (.iconst 0, 1) := by decide +kernel
theorem dX3_side_112 : decode cX3_side 112 = .ok (.ireturn, 1) := by decide +kernel
set_option maxRecDepth 20000 in
theorem ggX3_barsHand_X3_bars : GoodIn wsX3_barsHand wsX3_bars := goodIn_r _ [9, 3, 10, 11, 12, 13, 8, 14, 15, 21, 22, 23, 24, 25, 26, 27, 28, 29, 30, 31] (by decide +kernel) (by decide +kernel)
set_option maxRecDepth 20000 in
theorem gX3_barsHand_X3_bars : GoodIn wsX3_barsHand (wsV RX3 93 RX3 yX3_bars wsX3_bars) := goodIn_app (goodIn_of _ (by decide +kernel)) ggX3_barsHand_X3_bars
set_option maxRecDepth 20000 in
theorem ggX3_barsHand_X3_refuse : GoodIn wsX3_barsHand wsX3_refuse := goodIn_r _ [14, 15, 21, 22, 23, 24, 25, 26, 27, 28, 29, 30, 31] (by decide +kernel) (by decide +kernel)
set_option maxRecDepth 20000 in
theorem gX3_barsHand_X3_refuse : GoodIn wsX3_barsHand (wsV RX3 71 RX3 yX3_refuse wsX3_refuse) := goodIn_app (goodIn_of _ (by decide +kernel)) ggX3_barsHand_X3_refuse
set_option maxRecDepth 20000 in
theorem ggX3_barsHand_X3_thing : GoodIn wsX3_barsHand wsX3_thing := goodIn_r _ [19, 20, 21, 22, 23, 24, 25, 26, 27, 28, 29, 30, 31] (by decide +kernel) (by decide +kernel)
set_option maxRecDepth 20000 in
theorem gX3_barsHand_X3_thing : GoodIn wsX3_barsHand (wsV RX3 48 RX3 yX3_thing wsX3_thing) := goodIn_app (goodIn_of _ (by decide +kernel)) ggX3_barsHand_X3_thing
theorem dX3_barsHand_0 : decode cX3_barsHand 0 = .ok (.aload_n 0, 1) := by decide +kernel
theorem dX3_barsHand_1 : decode cX3_barsHand 1 = .ok (.iload_n 1, 1) := by decide +kernel
theorem dX3_barsHand_2 : decode cX3_barsHand 2 = .ok (.invokevirtual 93, 3) := by decide +kernel
theorem dX3_barsHand_5 : decode cX3_barsHand 5 = .ok (.istore_n 2, 1) := by decide +kernel
theorem dX3_barsHand_6 : decode cX3_barsHand 6 = .ok (.iload_n 2, 1) := by decide +kernel
theorem dX3_barsHand_7 : decode cX3_barsHand 7 = .ok (.ifCond .ge 5, 3) := by decide +kernel
theorem dX3_barsHand_10 : decode cX3_barsHand 10 = .ok (.iload_n 2, 1) := by decide +kernel
theorem dX3_barsHand_11 : decode cX3_barsHand 11 = .ok (.ireturn, 1) := by decide +kernel
theorem dX3_barsHand_12 : decode cX3_barsHand 12 = .ok (.aload_n 0, 1) := by decide +kernel
theorem dX3_barsHand_13 : decode cX3_barsHand 13 = .ok (.getfield 31, 3) := by decide +kernel
theorem dX3_barsHand_16 : decode cX3_barsHand 16 = .ok (.iload_n 1, 1) := by decide +kernel
theorem dX3_barsHand_17 : decode cX3_barsHand 17 = .ok (.iaload, 1) := by decide +kernel
theorem dX3_barsHand_18 : decode cX3_barsHand 18 = .ok (.iconst 1, 1) := by decide +kernel
theorem dX3_barsHand_19 : decode cX3_barsHand 19 = .ok (.if_icmp .ne 6, 3) := by decide +kernel
theorem dX3_barsHand_22 : decode cX3_barsHand 22 = .ok (.bipush (-8), 2) := by decide +kernel
theorem dX3_barsHand_24 : decode cX3_barsHand 24 = .ok (.ireturn, 1) := by decide +kernel
theorem dX3_barsHand_25 : decode cX3_barsHand 25 = .ok (.aload_n 0, 1) := by decide +kernel
theorem dX3_barsHand_26 : decode cX3_barsHand 26 = .ok (.getfield 25, 3) := by decide +kernel
theorem dX3_barsHand_29 : decode cX3_barsHand 29 = .ok (.iload_n 1, 1) := by decide +kernel
theorem dX3_barsHand_30 : decode cX3_barsHand 30 = .ok (.iaload, 1) := by decide +kernel
theorem dX3_barsHand_31 : decode cX3_barsHand 31 = .ok (.iconst (-1), 1) := by decide +kernel
theorem dX3_barsHand_32 : decode cX3_barsHand 32 = .ok (.if_icmp .ne 11, 3) := by decide +kernel
theorem dX3_barsHand_35 : decode cX3_barsHand 35 = .ok (.aload_n 0, 1) := by decide +kernel
theorem dX3_barsHand_36 : decode cX3_barsHand 36 = .ok (.iconst 2, 1) := by decide +kernel
theorem dX3_barsHand_37 : decode cX3_barsHand 37 = .ok (.bipush (-7), 2) := by decide +kernel
theorem dX3_barsHand_39 : decode cX3_barsHand 39 = .ok (.invokevirtual 71, 3) := by decide +kernel
theorem dX3_barsHand_42 : decode cX3_barsHand 42 = .ok (.ireturn, 1) := by decide +kernel
theorem dX3_barsHand_43 : decode cX3_barsHand 43 = .ok (.aload_n 0, 1) := by decide +kernel
theorem dX3_barsHand_44 : decode cX3_barsHand 44 = .ok (.aload_n 0, 1) := by decide +kernel
theorem dX3_barsHand_45 : decode cX3_barsHand 45 = .ok (.getfield 19, 3) := by decide +kernel
theorem dX3_barsHand_48 : decode cX3_barsHand 48 = .ok (.iload_n 1, 1) := by decide +kernel
theorem dX3_barsHand_49 : decode cX3_barsHand 49 = .ok (.iaload, 1) := by decide +kernel
theorem dX3_barsHand_50 : decode cX3_barsHand 50 = .ok (.aload_n 0, 1) := by decide +kernel
theorem dX3_barsHand_51 : decode cX3_barsHand 51 = .ok (.getfield 28, 3) := by decide +kernel
theorem dX3_barsHand_54 : decode cX3_barsHand 54 = .ok (.iload_n 1, 1) := by decide +kernel
theorem dX3_barsHand_55 : decode cX3_barsHand 55 = .ok (.iaload, 1) := by decide +kernel
theorem dX3_barsHand_56 : decode cX3_barsHand 56 = .ok (.invokevirtual 48, 3) := by decide +kernel
theorem dX3_barsHand_59 : decode cX3_barsHand 59 = .ok (.aload_n 0, 1) := by decide +kernel
theorem dX3_barsHand_60 : decode cX3_barsHand 60 = .ok (.getfield 25, 3) := by decide +kernel
theorem dX3_barsHand_63 : decode cX3_barsHand 63 = .ok (.iload_n 1, 1) := by decide +kernel
theorem dX3_barsHand_64 : decode cX3_barsHand 64 = .ok (.iaload, 1) := by decide +kernel
theorem dX3_barsHand_65 : decode cX3_barsHand 65 = .ok (.if_icmp .ne 7, 3) := by decide +kernel
theorem dX3_barsHand_68 : decode cX3_barsHand 68 = .ok (.iconst 0, 1) := by decide +kernel
theorem dX3_barsHand_69 : decode cX3_barsHand 69 = .ok (.goto 5, 3) := by decide +kernel
theorem dX3_barsHand_72 : decode cX3_barsHand 72 = .ok (.bipush (-8), 2) := by decide +kernel
theorem dX3_barsHand_74 : decode cX3_barsHand 74 = .ok (.ireturn, 1) := by decide +kernel
set_option maxRecDepth 20000 in
theorem ggX3_change_X3_isPeg : GoodIn wsX3_change wsX3_isPeg := goodIn_r _ [8, 9, 10, 7, 11] (by decide +kernel) (by decide +kernel)
set_option maxRecDepth 20000 in
theorem gX3_change_X3_isPeg : GoodIn wsX3_change (va_wsS RX3 90 yX3_isPeg wsX3_isPeg) := goodIn_app (goodIn_of _ (by decide +kernel)) ggX3_change_X3_isPeg
set_option maxRecDepth 20000 in
theorem ggX3_change_X3_isName : GoodIn wsX3_change wsX3_isName := goodIn_r _ [14, 9, 10, 7, 11] (by decide +kernel) (by decide +kernel)
set_option maxRecDepth 20000 in
theorem gX3_change_X3_isName : GoodIn wsX3_change (va_wsS RX3 56 yX3_isName wsX3_isName) := goodIn_app (goodIn_of _ (by decide +kernel)) ggX3_change_X3_isName
set_option maxRecDepth 20000 in
theorem ggX3_change_X3_barsHand : GoodIn wsX3_change wsX3_barsHand := goodIn_r _ [18, 19, 1, 3, 4, 20, 21, 22, 7, 23, 24, 25, 26, 27, 28, 29, 30, 31, 32, 33, 2, 39, 40, 41, 42, 43, 44, 45, 46, 47, 48, 49] (by decide +kernel) (by decide +kernel)
set_option maxRecDepth 20000 in
theorem gX3_change_X3_barsHand : GoodIn wsX3_change (wsV RX3 100 RX3 yX3_barsHand wsX3_barsHand) := goodIn_app (goodIn_of _ (by decide +kernel)) ggX3_change_X3_barsHand
set_option maxRecDepth 20000 in
theorem ggX3_change_X3_make : GoodIn wsX3_change wsX3_make := goodIn_r _ [37, 38, 39, 40, 41, 42, 43, 44, 45, 46, 47, 48, 49] (by decide +kernel) (by decide +kernel)
set_option maxRecDepth 20000 in
theorem gX3_change_X3_make : GoodIn wsX3_change (wsV RX3 59 RX3 yX3_make wsX3_make) := goodIn_app (goodIn_of _ (by decide +kernel)) ggX3_change_X3_make
theorem dX3_change_0 : decode cX3_change 0 = .ok (.iload_n 1, 1) := by decide +kernel
theorem dX3_change_1 : decode cX3_change 1 = .ok (.invokestatic 90, 3) := by decide +kernel
theorem dX3_change_4 : decode cX3_change 4 = .ok (.ifCond .eq 10, 3) := by decide +kernel
theorem dX3_change_7 : decode cX3_change 7 = .ok (.iload_n 2, 1) := by decide +kernel
theorem dX3_change_8 : decode cX3_change 8 = .ok (.invokestatic 56, 3) := by decide +kernel
theorem dX3_change_11 : decode cX3_change 11 = .ok (.ifCond .ne 5, 3) := by decide +kernel
theorem dX3_change_14 : decode cX3_change 14 = .ok (.iconst (-1), 1) := by decide +kernel
theorem dX3_change_15 : decode cX3_change 15 = .ok (.ireturn, 1) := by decide +kernel
theorem dX3_change_16 : decode cX3_change 16 = .ok (.aload_n 0, 1) := by decide +kernel
theorem dX3_change_17 : decode cX3_change 17 = .ok (.iload_n 1, 1) := by decide +kernel
theorem dX3_change_18 : decode cX3_change 18 = .ok (.invokevirtual 100, 3) := by decide +kernel
theorem dX3_change_21 : decode cX3_change 21 = .ok (.istore_n 3, 1) := by decide +kernel
theorem dX3_change_22 : decode cX3_change 22 = .ok (.iload_n 3, 1) := by decide +kernel
theorem dX3_change_23 : decode cX3_change 23 = .ok (.ifCond .ge 5, 3) := by decide +kernel
theorem dX3_change_26 : decode cX3_change 26 = .ok (.iload_n 3, 1) := by decide +kernel
theorem dX3_change_27 : decode cX3_change 27 = .ok (.ireturn, 1) := by decide +kernel
theorem dX3_change_28 : decode cX3_change 28 = .ok (.aload_n 0, 1) := by decide +kernel
theorem dX3_change_29 : decode cX3_change 29 = .ok (.getfield 25, 3) := by decide +kernel
theorem dX3_change_32 : decode cX3_change 32 = .ok (.iload_n 1, 1) := by decide +kernel
theorem dX3_change_33 : decode cX3_change 33 = .ok (.iaload, 1) := by decide +kernel
theorem dX3_change_34 : decode cX3_change 34 = .ok (.istore 4, 2) := by decide +kernel
theorem dX3_change_36 : decode cX3_change 36 = .ok (.aload_n 0, 1) := by decide +kernel
theorem dX3_change_37 : decode cX3_change 37 = .ok (.getfield 25, 3) := by decide +kernel
theorem dX3_change_40 : decode cX3_change 40 = .ok (.iload_n 1, 1) := by decide +kernel
theorem dX3_change_41 : decode cX3_change 41 = .ok (.aload_n 0, 1) := by decide +kernel
theorem dX3_change_42 : decode cX3_change 42 = .ok (.iload_n 2, 1) := by decide +kernel
theorem dX3_change_43 : decode cX3_change 43 = .ok (.invokevirtual 59, 3) := by decide +kernel
theorem dX3_change_46 : decode cX3_change 46 = .ok (.iastore, 1) := by decide +kernel
theorem dX3_change_47 : decode cX3_change 47 = .ok (.aload_n 0, 1) := by decide +kernel
theorem dX3_change_48 : decode cX3_change 48 = .ok (.getfield 7, 3) := by decide +kernel
theorem dX3_change_51 : decode cX3_change 51 = .ok (.bipush 64, 2) := by decide +kernel
theorem dX3_change_53 : decode cX3_change 53 = .ok (.aload_n 0, 1) := by decide +kernel
theorem dX3_change_54 : decode cX3_change 54 = .ok (.getfield 19, 3) := by decide +kernel
theorem dX3_change_57 : decode cX3_change 57 = .ok (.iload_n 1, 1) := by decide +kernel
theorem dX3_change_58 : decode cX3_change 58 = .ok (.iaload, 1) := by decide +kernel
theorem dX3_change_59 : decode cX3_change 59 = .ok (.imul, 1) := by decide +kernel
theorem dX3_change_60 : decode cX3_change 60 = .ok (.aload_n 0, 1) := by decide +kernel
theorem dX3_change_61 : decode cX3_change 61 = .ok (.getfield 28, 3) := by decide +kernel
theorem dX3_change_64 : decode cX3_change 64 = .ok (.iload_n 1, 1) := by decide +kernel
theorem dX3_change_65 : decode cX3_change 65 = .ok (.iaload, 1) := by decide +kernel
theorem dX3_change_66 : decode cX3_change 66 = .ok (.iadd, 1) := by decide +kernel
theorem dX3_change_67 : decode cX3_change 67 = .ok (.aload_n 0, 1) := by decide +kernel
theorem dX3_change_68 : decode cX3_change 68 = .ok (.getfield 25, 3) := by decide +kernel
theorem dX3_change_71 : decode cX3_change 71 = .ok (.iload_n 1, 1) := by decide +kernel
theorem dX3_change_72 : decode cX3_change 72 = .ok (.iaload, 1) := by decide +kernel
theorem dX3_change_73 : decode cX3_change 73 = .ok (.iastore, 1) := by decide +kernel
theorem dX3_change_74 : decode cX3_change 74 = .ok (.iload 4, 2) := by decide +kernel
theorem dX3_change_76 : decode cX3_change 76 = .ok (.ireturn, 1) := by decide +kernel
set_option maxRecDepth 20000 in
theorem ggX3_add_X3_isPeg : GoodIn wsX3_add wsX3_isPeg := goodIn_r _ [9, 10, 11, 8, 12] (by decide +kernel) (by decide +kernel)
set_option maxRecDepth 20000 in
theorem gX3_add_X3_isPeg : GoodIn wsX3_add (va_wsS RX3 90 yX3_isPeg wsX3_isPeg) := goodIn_app (goodIn_of _ (by decide +kernel)) ggX3_add_X3_isPeg
set_option maxRecDepth 20000 in
theorem ggX3_add_X3_isName : GoodIn wsX3_add wsX3_isName := goodIn_r _ [15, 10, 11, 8, 12] (by decide +kernel) (by decide +kernel)
set_option maxRecDepth 20000 in
theorem gX3_add_X3_isName : GoodIn wsX3_add (va_wsS RX3 56 yX3_isName wsX3_isName) := goodIn_app (goodIn_of _ (by decide +kernel)) ggX3_add_X3_isName
set_option maxRecDepth 20000 in
theorem ggX3_add_X3_bars : GoodIn wsX3_add wsX3_bars := goodIn_r _ [19, 1, 20, 21, 22, 23, 8, 24, 25, 44, 45, 46, 47, 48, 49, 50, 51, 52, 53, 54] (by decide +kernel) (by decide +kernel)
set_option maxRecDepth 20000 in
theorem gX3_add_X3_bars : GoodIn wsX3_add (wsV RX3 93 RX3 yX3_bars wsX3_bars) := goodIn_app (goodIn_of _ (by decide +kernel)) ggX3_add_X3_bars
set_option maxRecDepth 20000 in
theorem ggX3_add_X3_make : GoodIn wsX3_add wsX3_make := goodIn_r _ [29, 30, 44, 45, 46, 47, 48, 49, 50, 51, 52, 53, 54] (by decide +kernel) (by decide +kernel)
set_option maxRecDepth 20000 in
theorem gX3_add_X3_make : GoodIn wsX3_add (wsV RX3 59 RX3 yX3_make wsX3_make) := goodIn_app (goodIn_of _ (by decide +kernel)) ggX3_add_X3_make
set_option maxRecDepth 20000 in
theorem ggX3_add_X3_open : GoodIn wsX3_add wsX3_open := goodIn_r _ [34, 2, 35, 36, 37, 38, 8, 39, 44, 45, 46, 47, 48, 49, 50, 51, 52, 53, 54] (by decide +kernel) (by decide +kernel)
set_option maxRecDepth 20000 in
theorem gX3_add_X3_open : GoodIn wsX3_add (wsV RX3 63 RX3 yX3_open wsX3_open) := goodIn_app (goodIn_of _ (by decide +kernel)) ggX3_add_X3_open
set_option maxRecDepth 20000 in
theorem ggX3_add_X3_age : GoodIn wsX3_add wsX3_age := goodIn_r _ [43, 20, 1, 44, 45, 46, 47, 48, 49, 50, 51, 52, 53, 54] (by decide +kernel) (by decide +kernel)
set_option maxRecDepth 20000 in
theorem gX3_add_X3_age : GoodIn wsX3_add (wsV RX3 67 RX3 yX3_age wsX3_age) := goodIn_app (goodIn_of _ (by decide +kernel)) ggX3_add_X3_age
theorem dX3_add_0 : decode cX3_add 0 = .ok (.iload_n 1, 1) := by decide +kernel
theorem dX3_add_1 : decode cX3_add 1 = .ok (.invokestatic 90, 3) := by decide +kernel
theorem dX3_add_4 : decode cX3_add 4 = .ok (.ifCond .eq 10, 3) := by decide +kernel
theorem dX3_add_7 : decode cX3_add 7 = .ok (.iload_n 2, 1) := by decide +kernel
theorem dX3_add_8 : decode cX3_add 8 = .ok (.invokestatic 56, 3) := by decide +kernel
theorem dX3_add_11 : decode cX3_add 11 = .ok (.ifCond .ne 5, 3) := by decide +kernel
theorem dX3_add_14 : decode cX3_add 14 = .ok (.iconst (-1), 1) := by decide +kernel
theorem dX3_add_15 : decode cX3_add 15 = .ok (.ireturn, 1) := by decide +kernel
theorem dX3_add_16 : decode cX3_add 16 = .ok (.aload_n 0, 1) := by decide +kernel
theorem dX3_add_17 : decode cX3_add 17 = .ok (.getfield 19, 3) := by decide +kernel
theorem dX3_add_20 : decode cX3_add 20 = .ok (.iload_n 1, 1) := by decide +kernel
theorem dX3_add_21 : decode cX3_add 21 = .ok (.iaload, 1) := by decide +kernel
theorem dX3_add_22 : decode cX3_add 22 = .ok (.istore_n 3, 1) := by decide +kernel
theorem dX3_add_23 : decode cX3_add 23 = .ok (.iload_n 3, 1) := by decide +kernel
theorem dX3_add_24 : decode cX3_add 24 = .ok (.iconst (-1), 1) := by decide +kernel
theorem dX3_add_25 : decode cX3_add 25 = .ok (.if_icmp .ne 6, 3) := by decide +kernel
theorem dX3_add_28 : decode cX3_add 28 = .ok (.bipush (-2), 2) := by decide +kernel
theorem dX3_add_30 : decode cX3_add 30 = .ok (.ireturn, 1) := by decide +kernel
theorem dX3_add_31 : decode cX3_add 31 = .ok (.aload_n 0, 1) := by decide +kernel
theorem dX3_add_32 : decode cX3_add 32 = .ok (.getfield 13, 3) := by decide +kernel
theorem dX3_add_35 : decode cX3_add 35 = .ok (.iload_n 3, 1) := by decide +kernel
theorem dX3_add_36 : decode cX3_add 36 = .ok (.iaload, 1) := by decide +kernel
theorem dX3_add_37 : decode cX3_add 37 = .ok (.bipush 60, 2) := by decide +kernel
theorem dX3_add_39 : decode cX3_add 39 = .ok (.if_icmp .ne 6, 3) := by decide +kernel
theorem dX3_add_42 : decode cX3_add 42 = .ok (.bipush (-3), 2) := by decide +kernel
theorem dX3_add_44 : decode cX3_add 44 = .ok (.ireturn, 1) := by decide +kernel
theorem dX3_add_45 : decode cX3_add 45 = .ok (.aload_n 0, 1) := by decide +kernel
theorem dX3_add_46 : decode cX3_add 46 = .ok (.iload_n 1, 1) := by decide +kernel
theorem dX3_add_47 : decode cX3_add 47 = .ok (.invokevirtual 93, 3) := by decide +kernel
theorem dX3_add_50 : decode cX3_add 50 = .ok (.istore 4, 2) := by decide +kernel
theorem dX3_add_52 : decode cX3_add 52 = .ok (.iload 4, 2) := by decide +kernel
theorem dX3_add_54 : decode cX3_add 54 = .ok (.ifCond .ge 6, 3) := by decide +kernel
theorem dX3_add_57 : decode cX3_add 57 = .ok (.iload 4, 2) := by decide +kernel
theorem dX3_add_59 : decode cX3_add 59 = .ok (.ireturn, 1) := by decide +kernel
theorem dX3_add_60 : decode cX3_add 60 = .ok (.aload_n 0, 1) := by decide +kernel
theorem dX3_add_61 : decode cX3_add 61 = .ok (.iload_n 3, 1) := by decide +kernel
theorem dX3_add_62 : decode cX3_add 62 = .ok (.aload_n 0, 1) := by decide +kernel
theorem dX3_add_63 : decode cX3_add 63 = .ok (.getfield 22, 3) := by decide +kernel
theorem dX3_add_66 : decode cX3_add 66 = .ok (.iload_n 1, 1) := by decide +kernel
theorem dX3_add_67 : decode cX3_add 67 = .ok (.iaload, 1) := by decide +kernel
theorem dX3_add_68 : decode cX3_add 68 = .ok (.aload_n 0, 1) := by decide +kernel
theorem dX3_add_69 : decode cX3_add 69 = .ok (.iload_n 2, 1) := by decide +kernel
theorem dX3_add_70 : decode cX3_add 70 = .ok (.invokevirtual 59, 3) := by decide +kernel
theorem dX3_add_73 : decode cX3_add 73 = .ok (.invokevirtual 63, 3) := by decide +kernel
theorem dX3_add_76 : decode cX3_add 76 = .ok (.aload_n 0, 1) := by decide +kernel
theorem dX3_add_77 : decode cX3_add 77 = .ok (.getfield 22, 3) := by decide +kernel
theorem dX3_add_80 : decode cX3_add 80 = .ok (.iload_n 1, 1) := by decide +kernel
theorem dX3_add_81 : decode cX3_add 81 = .ok (.dup2, 1) := by decide +kernel
theorem dX3_add_82 : decode cX3_add 82 = .ok (.iaload, 1) := by decide +kernel
theorem dX3_add_83 : decode cX3_add 83 = .ok (.iconst 1, 1) := by decide +kernel
theorem dX3_add_84 : decode cX3_add 84 = .ok (.iadd, 1) := by decide +kernel
theorem dX3_add_85 : decode cX3_add 85 = .ok (.iastore, 1) := by decide +kernel
theorem dX3_add_86 : decode cX3_add 86 = .ok (.aload_n 0, 1) := by decide +kernel
theorem dX3_add_87 : decode cX3_add 87 = .ok (.getfield 25, 3) := by decide +kernel
theorem dX3_add_90 : decode cX3_add 90 = .ok (.iload_n 1, 1) := by decide +kernel
theorem dX3_add_91 : decode cX3_add 91 = .ok (.iconst (-1), 1) := by decide +kernel
theorem dX3_add_92 : decode cX3_add 92 = .ok (.iastore, 1) := by decide +kernel
theorem dX3_add_93 : decode cX3_add 93 = .ok (.aload_n 0, 1) := by decide +kernel
theorem dX3_add_94 : decode cX3_add 94 = .ok (.getfield 31, 3) := by decide +kernel
theorem dX3_add_97 : decode cX3_add 97 = .ok (.iload_n 1, 1) := by decide +kernel
theorem dX3_add_98 : decode cX3_add 98 = .ok (.iconst 0, 1) := by decide +kernel
theorem dX3_add_99 : decode cX3_add 99 = .ok (.iastore, 1) := by decide +kernel
theorem dX3_add_100 : decode cX3_add 100 = .ok (.aload_n 0, 1) := by decide +kernel
theorem dX3_add_101 : decode cX3_add 101 = .ok (.iload_n 3, 1) := by decide +kernel
theorem dX3_add_102 : decode cX3_add 102 = .ok (.iload_n 1, 1) := by decide +kernel
theorem dX3_add_103 : decode cX3_add 103 = .ok (.invokevirtual 67, 3) := by decide +kernel
theorem dX3_add_106 : decode cX3_add 106 = .ok (.aload_n 0, 1) := by decide +kernel
theorem dX3_add_107 : decode cX3_add 107 = .ok (.getfield 13, 3) := by decide +kernel
theorem dX3_add_110 : decode cX3_add 110 = .ok (.iload_n 3, 1) := by decide +kernel
theorem dX3_add_111 : decode cX3_add 111 = .ok (.iaload, 1) := by decide +kernel
theorem dX3_add_112 : decode cX3_add 112 = .ok (.ireturn, 1) := by decide +kernel
set_option maxRecDepth 20000 in
theorem ggX3_remove_X3_isPeg : GoodIn wsX3_remove wsX3_isPeg := goodIn_r _ [8, 9, 10, 7, 11] (by decide +kernel) (by decide +kernel)
set_option maxRecDepth 20000 in
theorem gX3_remove_X3_isPeg : GoodIn wsX3_remove (va_wsS RX3 90 yX3_isPeg wsX3_isPeg) := goodIn_app (goodIn_of _ (by decide +kernel)) ggX3_remove_X3_isPeg
set_option maxRecDepth 20000 in
theorem ggX3_remove_X3_barsHand : GoodIn wsX3_remove wsX3_barsHand := goodIn_r _ [15, 16, 4, 1, 2, 17, 18, 19, 7, 20, 21, 22, 23, 24, 25, 26, 27, 28, 29, 30, 31, 41, 42, 43, 44, 45, 46, 47, 48, 49, 50, 51] (by decide +kernel) (by decide +kernel)
set_option maxRecDepth 20000 in
theorem gX3_remove_X3_barsHand : GoodIn wsX3_remove (wsV RX3 100 RX3 yX3_barsHand wsX3_barsHand) := goodIn_app (goodIn_of _ (by decide +kernel)) ggX3_remove_X3_barsHand
set_option maxRecDepth 20000 in
theorem ggX3_remove_X3_close : GoodIn wsX3_remove wsX3_close := goodIn_r _ [35, 36, 31, 27, 28, 29, 7, 30, 41, 42, 43, 44, 45, 46, 47, 48, 49, 50, 51] (by decide +kernel) (by decide +kernel)
set_option maxRecDepth 20000 in
theorem gX3_remove_X3_close : GoodIn wsX3_remove (wsV RX3 74 RX3 yX3_close wsX3_close) := goodIn_app (goodIn_of _ (by decide +kernel)) ggX3_remove_X3_close
set_option maxRecDepth 20000 in
theorem ggX3_remove_X3_age : GoodIn wsX3_remove wsX3_age := goodIn_r _ [40, 21, 1, 41, 42, 43, 44, 45, 46, 47, 48, 49, 50, 51] (by decide +kernel) (by decide +kernel)
set_option maxRecDepth 20000 in
theorem gX3_remove_X3_age : GoodIn wsX3_remove (wsV RX3 67 RX3 yX3_age wsX3_age) := goodIn_app (goodIn_of _ (by decide +kernel)) ggX3_remove_X3_age
theorem dX3_remove_0 : decode cX3_remove 0 = .ok (.iload_n 1, 1) := by decide +kernel
theorem dX3_remove_1 : decode cX3_remove 1 = .ok (.invokestatic 90, 3) := by decide +kernel
theorem dX3_remove_4 : decode cX3_remove 4 = .ok (.ifCond .ne 5, 3) := by decide +kernel
theorem dX3_remove_7 : decode cX3_remove 7 = .ok (.iconst (-1), 1) := by decide +kernel
theorem dX3_remove_8 : decode cX3_remove 8 = .ok (.ireturn, 1) := by decide +kernel
theorem dX3_remove_9 : decode cX3_remove 9 = .ok (.aload_n 0, 1) := by decide +kernel
theorem dX3_remove_10 : decode cX3_remove 10 = .ok (.iload_n 1, 1) := by decide +kernel
theorem dX3_remove_11 : decode cX3_remove 11 = .ok (.invokevirtual 100, 3) := by decide +kernel
theorem dX3_remove_14 : decode cX3_remove 14 = .ok (.istore_n 2, 1) := by decide +kernel
theorem dX3_remove_15 : decode cX3_remove 15 = .ok (.iload_n 2, 1) := by decide +kernel
theorem dX3_remove_16 : decode cX3_remove 16 = .ok (.ifCond .ge 5, 3) := by decide +kernel
theorem dX3_remove_19 : decode cX3_remove 19 = .ok (.iload_n 2, 1) := by decide +kernel
theorem dX3_remove_20 : decode cX3_remove 20 = .ok (.ireturn, 1) := by decide +kernel
theorem dX3_remove_21 : decode cX3_remove 21 = .ok (.aload_n 0, 1) := by decide +kernel
theorem dX3_remove_22 : decode cX3_remove 22 = .ok (.aload_n 0, 1) := by decide +kernel
theorem dX3_remove_23 : decode cX3_remove 23 = .ok (.getfield 19, 3) := by decide +kernel
theorem dX3_remove_26 : decode cX3_remove 26 = .ok (.iload_n 1, 1) := by decide +kernel
theorem dX3_remove_27 : decode cX3_remove 27 = .ok (.iaload, 1) := by decide +kernel
theorem dX3_remove_28 : decode cX3_remove 28 = .ok (.aload_n 0, 1) := by decide +kernel
theorem dX3_remove_29 : decode cX3_remove 29 = .ok (.getfield 28, 3) := by decide +kernel
theorem dX3_remove_32 : decode cX3_remove 32 = .ok (.iload_n 1, 1) := by decide +kernel
theorem dX3_remove_33 : decode cX3_remove 33 = .ok (.iaload, 1) := by decide +kernel
theorem dX3_remove_34 : decode cX3_remove 34 = .ok (.invokevirtual 74, 3) := by decide +kernel
theorem dX3_remove_37 : decode cX3_remove 37 = .ok (.istore_n 3, 1) := by decide +kernel
theorem dX3_remove_38 : decode cX3_remove 38 = .ok (.aload_n 0, 1) := by decide +kernel
theorem dX3_remove_39 : decode cX3_remove 39 = .ok (.getfield 22, 3) := by decide +kernel
theorem dX3_remove_42 : decode cX3_remove 42 = .ok (.iload_n 1, 1) := by decide +kernel
theorem dX3_remove_43 : decode cX3_remove 43 = .ok (.aload_n 0, 1) := by decide +kernel
theorem dX3_remove_44 : decode cX3_remove 44 = .ok (.getfield 28, 3) := by decide +kernel
theorem dX3_remove_47 : decode cX3_remove 47 = .ok (.iload_n 1, 1) := by decide +kernel
theorem dX3_remove_48 : decode cX3_remove 48 = .ok (.iaload, 1) := by decide +kernel
theorem dX3_remove_49 : decode cX3_remove 49 = .ok (.iastore, 1) := by decide +kernel
theorem dX3_remove_50 : decode cX3_remove 50 = .ok (.aload_n 0, 1) := by decide +kernel
theorem dX3_remove_51 : decode cX3_remove 51 = .ok (.getfield 25, 3) := by decide +kernel
theorem dX3_remove_54 : decode cX3_remove 54 = .ok (.iload_n 1, 1) := by decide +kernel
theorem dX3_remove_55 : decode cX3_remove 55 = .ok (.iconst (-1), 1) := by decide +kernel
theorem dX3_remove_56 : decode cX3_remove 56 = .ok (.iastore, 1) := by decide +kernel
theorem dX3_remove_57 : decode cX3_remove 57 = .ok (.aload_n 0, 1) := by decide +kernel
theorem dX3_remove_58 : decode cX3_remove 58 = .ok (.aload_n 0, 1) := by decide +kernel
theorem dX3_remove_59 : decode cX3_remove 59 = .ok (.getfield 19, 3) := by decide +kernel
theorem dX3_remove_62 : decode cX3_remove 62 = .ok (.iload_n 1, 1) := by decide +kernel
theorem dX3_remove_63 : decode cX3_remove 63 = .ok (.iaload, 1) := by decide +kernel
theorem dX3_remove_64 : decode cX3_remove 64 = .ok (.iload_n 1, 1) := by decide +kernel
theorem dX3_remove_65 : decode cX3_remove 65 = .ok (.invokevirtual 67, 3) := by decide +kernel
theorem dX3_remove_68 : decode cX3_remove 68 = .ok (.iload_n 3, 1) := by decide +kernel
theorem dX3_remove_69 : decode cX3_remove 69 = .ok (.ireturn, 1) := by decide +kernel
set_option maxRecDepth 20000 in
theorem ggX3_old_X3_isPeg : GoodIn wsX3_old wsX3_isPeg := goodIn_r _ [6, 7, 8, 5, 9] (by decide +kernel) (by decide +kernel)
set_option maxRecDepth 20000 in
theorem gX3_old_X3_isPeg : GoodIn wsX3_old (va_wsS RX3 90 yX3_isPeg wsX3_isPeg) := goodIn_app (goodIn_of _ (by decide +kernel)) ggX3_old_X3_isPeg
theorem dX3_old_0 : decode cX3_old 0 = .ok (.iload_n 1, 1) := by decide +kernel
theorem dX3_old_1 : decode cX3_old 1 = .ok (.invokestatic 90, 3) := by decide +kernel
theorem dX3_old_4 : decode cX3_old 4 = .ok (.ifCond .ne 5, 3) := by decide +kernel
theorem dX3_old_7 : decode cX3_old 7 = .ok (.iconst (-1), 1) := by decide +kernel
theorem dX3_old_8 : decode cX3_old 8 = .ok (.ireturn, 1) := by decide +kernel
theorem dX3_old_9 : decode cX3_old 9 = .ok (.aload_n 0, 1) := by decide +kernel
theorem dX3_old_10 : decode cX3_old 10 = .ok (.getfield 19, 3) := by decide +kernel
theorem dX3_old_13 : decode cX3_old 13 = .ok (.iload_n 1, 1) := by decide +kernel
theorem dX3_old_14 : decode cX3_old 14 = .ok (.iaload, 1) := by decide +kernel
theorem dX3_old_15 : decode cX3_old 15 = .ok (.iconst (-1), 1) := by decide +kernel
theorem dX3_old_16 : decode cX3_old 16 = .ok (.if_icmp .ne 8, 3) := by decide +kernel
theorem dX3_old_19 : decode cX3_old 19 = .ok (.bipush (-2), 2) := by decide +kernel
theorem dX3_old_21 : decode cX3_old 21 = .ok (.goto 9, 3) := by decide +kernel
theorem dX3_old_24 : decode cX3_old 24 = .ok (.aload_n 0, 1) := by decide +kernel
theorem dX3_old_25 : decode cX3_old 25 = .ok (.getfield 34, 3) := by decide +kernel
theorem dX3_old_28 : decode cX3_old 28 = .ok (.iload_n 1, 1) := by decide +kernel
theorem dX3_old_29 : decode cX3_old 29 = .ok (.iaload, 1) := by decide +kernel
theorem dX3_old_30 : decode cX3_old 30 = .ok (.ireturn, 1) := by decide +kernel
theorem dX3_standing_0 : decode cX3_standing 0 = .ok (.iconst 0, 1) := by decide +kernel
theorem dX3_standing_1 : decode cX3_standing 1 = .ok (.istore_n 1, 1) := by decide +kernel
theorem dX3_standing_2 : decode cX3_standing 2 = .ok (.iconst 0, 1) := by decide +kernel
theorem dX3_standing_3 : decode cX3_standing 3 = .ok (.istore_n 2, 1) := by decide +kernel
theorem dX3_standing_4 : decode cX3_standing 4 = .ok (.iload_n 2, 1) := by decide +kernel
theorem dX3_standing_5 : decode cX3_standing 5 = .ok (.iconst 4, 1) := by decide +kernel
theorem dX3_standing_6 : decode cX3_standing 6 = .ok (.if_icmp .ge 27, 3) := by decide +kernel
theorem dX3_standing_9 : decode cX3_standing 9 = .ok (.iload_n 1, 1) := by decide +kernel
theorem dX3_standing_10 : decode cX3_standing 10 = .ok (.aload_n 0, 1) := by decide +kernel
theorem dX3_standing_11 : decode cX3_standing 11 = .ok (.getfield 19, 3) := by decide +kernel
theorem dX3_standing_14 : decode cX3_standing 14 = .ok (.iload_n 2, 1) := by decide +kernel
theorem dX3_standing_15 : decode cX3_standing 15 = .ok (.iaload, 1) := by decide +kernel
theorem dX3_standing_16 : decode cX3_standing 16 = .ok (.iconst (-1), 1) := by decide +kernel
theorem dX3_standing_17 : decode cX3_standing 17 = .ok (.if_icmp .ne 7, 3) := by decide +kernel
theorem dX3_standing_20 : decode cX3_standing 20 = .ok (.iconst 0, 1) := by decide +kernel
theorem dX3_standing_21 : decode cX3_standing 21 = .ok (.goto 4, 3) := by decide +kernel
theorem dX3_standing_24 : decode cX3_standing 24 = .ok (.iconst 1, 1) := by decide +kernel
theorem dX3_standing_25 : decode cX3_standing 25 = .ok (.iadd, 1) := by decide +kernel
theorem dX3_standing_26 : decode cX3_standing 26 = .ok (.istore_n 1, 1) := by decide +kernel
theorem dX3_standing_27 : decode cX3_standing 27 = .ok (.iinc 2 1, 3) := by decide +kernel
theorem dX3_standing_30 : decode cX3_standing 30 = .ok (.goto (-26), 3) := by decide +kernel
theorem dX3_standing_33 : decode cX3_standing 33 = .ok (.iload_n 1, 1) := by decide +kernel
theorem dX3_standing_34 : decode cX3_standing 34 = .ok (.ireturn, 1) := by decide +kernel
set_option maxRecDepth 20000 in
theorem ggX3_count_X3_in : GoodIn wsX3_count wsX3_in := goodIn_r _ [7] (by decide +kernel) (by decide +kernel)
set_option maxRecDepth 20000 in
theorem gX3_count_X3_in : GoodIn wsX3_count (va_wsS RX3 40 yX3_in wsX3_in) := goodIn_app (goodIn_of _ (by decide +kernel)) ggX3_count_X3_in
set_option maxRecDepth 20000 in
theorem ggX3_count_X3_standing : GoodIn wsX3_count wsX3_standing := goodIn_r _ [11, 12, 13, 14, 15, 16, 17, 18, 19, 20, 21, 22, 23] (by decide +kernel) (by decide +kernel)
set_option maxRecDepth 20000 in
theorem gX3_count_X3_standing : GoodIn wsX3_count (wsV RX3 103 RX3 yX3_standing wsX3_standing) := goodIn_app (goodIn_of _ (by decide +kernel)) ggX3_count_X3_standing
theorem dX3_count_0 : decode cX3_count 0 = .ok (.iload_n 1, 1) := by decide +kernel
theorem dX3_count_1 : decode cX3_count 1 = .ok (.iconst 0, 1) := by decide +kernel
theorem dX3_count_2 : decode cX3_count 2 = .ok (.bipush 6, 2) := by decide +kernel
theorem dX3_count_4 : decode cX3_count 4 = .ok (.invokestatic 40, 3) := by decide +kernel
theorem dX3_count_7 : decode cX3_count 7 = .ok (.ifCond .ne 5, 3) := by decide +kernel
theorem dX3_count_10 : decode cX3_count 10 = .ok (.iconst (-1), 1) := by decide +kernel
theorem dX3_count_11 : decode cX3_count 11 = .ok (.ireturn, 1) := by decide +kernel
theorem dX3_count_12 : decode cX3_count 12 = .ok (.iload_n 1, 1) := by decide +kernel
theorem dX3_count_13 : decode cX3_count 13 = .ok (.ifCond .ne 8, 3) := by decide +kernel
theorem dX3_count_16 : decode cX3_count 16 = .ok (.aload_n 0, 1) := by decide +kernel
theorem dX3_count_17 : decode cX3_count 17 = .ok (.getfield 44, 3) := by decide +kernel
theorem dX3_count_20 : decode cX3_count 20 = .ok (.ireturn, 1) := by decide +kernel
theorem dX3_count_21 : decode cX3_count 21 = .ok (.iload_n 1, 1) := by decide +kernel
theorem dX3_count_22 : decode cX3_count 22 = .ok (.iconst 5, 1) := by decide +kernel
theorem dX3_count_23 : decode cX3_count 23 = .ok (.if_icmp .ge 12, 3) := by decide +kernel
theorem dX3_count_26 : decode cX3_count 26 = .ok (.aload_n 0, 1) := by decide +kernel
theorem dX3_count_27 : decode cX3_count 27 = .ok (.getfield 16, 3) := by decide +kernel
theorem dX3_count_30 : decode cX3_count 30 = .ok (.iload_n 1, 1) := by decide +kernel
theorem dX3_count_31 : decode cX3_count 31 = .ok (.iconst 1, 1) := by decide +kernel
theorem dX3_count_32 : decode cX3_count 32 = .ok (.isub, 1) := by decide +kernel
theorem dX3_count_33 : decode cX3_count 33 = .ok (.iaload, 1) := by decide +kernel
theorem dX3_count_34 : decode cX3_count 34 = .ok (.ireturn, 1) := by decide +kernel
theorem dX3_count_35 : decode cX3_count 35 = .ok (.iload_n 1, 1) := by decide +kernel
theorem dX3_count_36 : decode cX3_count 36 = .ok (.iconst 5, 1) := by decide +kernel
theorem dX3_count_37 : decode cX3_count 37 = .ok (.if_icmp .ne 10, 3) := by decide +kernel
theorem dX3_count_40 : decode cX3_count 40 = .ok (.aload_n 0, 1) := by decide +kernel
theorem dX3_count_41 : decode cX3_count 41 = .ok (.invokevirtual 103, 3) := by decide +kernel
theorem dX3_count_44 : decode cX3_count 44 = .ok (.goto 30, 3) := by decide +kernel
theorem dX3_count_47 : decode cX3_count 47 = .ok (.aload_n 0, 1) := by decide +kernel
theorem dX3_count_48 : decode cX3_count 48 = .ok (.getfield 34, 3) := by decide +kernel
theorem dX3_count_51 : decode cX3_count 51 = .ok (.iconst 0, 1) := by decide +kernel
theorem dX3_count_52 : decode cX3_count 52 = .ok (.iaload, 1) := by decide +kernel
theorem dX3_count_53 : decode cX3_count 53 = .ok (.aload_n 0, 1) := by decide +kernel
theorem dX3_count_54 : decode cX3_count 54 = .ok (.getfield 34, 3) := by decide +kernel
theorem dX3_count_57 : decode cX3_count 57 = .ok (.iconst 1, 1) := by decide +kernel
theorem dX3_count_58 : decode cX3_count 58 = .ok (.iaload, 1) := by decide +kernel
theorem dX3_count_59 : decode cX3_count 59 = .ok (.iadd, 1) := by decide +kernel
theorem dX3_count_60 : decode cX3_count 60 = .ok (.aload_n 0, 1) := by decide +kernel
theorem dX3_count_61 : decode cX3_count 61 = .ok (.getfield 34, 3) := by decide +kernel
theorem dX3_count_64 : decode cX3_count 64 = .ok (.iconst 2, 1) := by decide +kernel
theorem dX3_count_65 : decode cX3_count 65 = .ok (.iaload, 1) := by decide +kernel
theorem dX3_count_66 : decode cX3_count 66 = .ok (.iadd, 1) := by decide +kernel
theorem dX3_count_67 : decode cX3_count 67 = .ok (.aload_n 0, 1) := by decide +kernel
theorem dX3_count_68 : decode cX3_count 68 = .ok (.getfield 34, 3) := by decide +kernel
theorem dX3_count_71 : decode cX3_count 71 = .ok (.iconst 3, 1) := by decide +kernel
theorem dX3_count_72 : decode cX3_count 72 = .ok (.iaload, 1) := by decide +kernel
theorem dX3_count_73 : decode cX3_count 73 = .ok (.iadd, 1) := by decide +kernel
theorem dX3_count_74 : decode cX3_count 74 = .ok (.ireturn, 1) := by decide +kernel
end
section
set_option maxRecDepth 20000 in
theorem ggL_law_X2_init : GoodIn wsL_law wsX2_init := goodIn_r _ [8, 9, 10, 11, 12, 13, 14, 15, 16, 17, 18, 19, 20, 21, 22, 23, 24, 25, 26, 27, 28, 468, 469, 470, 471, 472, 473, 474, 486, 487, 488, 489, 490, 491, 492, 493, 494] (by decide +kernel) (by decide +kernel)
set_option maxRecDepth 20000 in
theorem gL_law_X2_init : GoodIn wsL_law (wsX2_init) := ggL_law_X2_init
set_option maxRecDepth 20000 in
theorem ggL_law_X3_init : GoodIn wsL_law wsX3_init := goodIn_r _ [31, 32, 10, 11, 23, 33, 34, 35, 36, 37, 38, 39, 40, 41, 42, 475, 476, 477, 478, 479, 480, 481, 482, 483, 484, 485] (by decide +kernel) (by decide +kernel)
set_option maxRecDepth 20000 in
theorem gL_law_X3_init : GoodIn wsL_law (wsX3_init) := ggL_law_X3_init
set_option maxRecDepth 20000 in
theorem ggL_law_X2_put : GoodIn wsL_law wsX2_put := goodIn_r _ [46, 47, 48, 49, 2, 50, 13, 51, 52, 53, 54, 55, 56, 17, 57, 58, 59, 60, 61, 62, 63, 64, 65, 66, 67, 24, 68, 69, 70, 71, 72, 486, 487, 488, 468, 469, 470, 471, 472, 473, 474] (by decide +kernel) (by decide +kernel)
set_option maxRecDepth 20000 in
theorem gL_law_X2_put : GoodIn wsL_law (wsV RL 13 RX2 yX2_put wsX2_put) := goodIn_app (goodIn_of _ (by decide +kernel)) ggL_law_X2_put
set_option maxRecDepth 20000 in
theorem ggL_law_X3_put : GoodIn wsL_law wsX3_put := goodIn_r _ [76, 34, 77, 78, 5, 79, 80, 81, 82, 83, 84, 85, 86, 87, 88, 89, 90, 91, 92, 93, 94, 33, 95, 96, 97, 98, 99, 100, 101, 102, 41, 36, 475, 476, 477, 478, 479, 480, 481, 482, 483, 484, 485] (by decide +kernel) (by decide +kernel)
set_option maxRecDepth 20000 in
theorem gL_law_X3_put : GoodIn wsL_law (wsV RL 17 RX3 yX3_put wsX3_put) := goodIn_app (goodIn_of _ (by decide +kernel)) ggL_law_X3_put
set_option maxRecDepth 20000 in
theorem ggL_law_X2_end : GoodIn wsL_law wsX2_end := goodIn_r _ [106, 47, 48, 49, 2, 50, 13, 107, 108, 109, 110, 111, 112, 113, 114, 115, 116, 117, 118, 119, 120, 121, 122, 123, 124, 17, 125, 24, 486, 487, 488, 468, 469, 470, 471, 472, 473, 474] (by decide +kernel) (by decide +kernel)
set_option maxRecDepth 20000 in
theorem gL_law_X2_end : GoodIn wsL_law (wsV RL 18 RX2 yX2_end wsX2_end) := goodIn_app (goodIn_of _ (by decide +kernel)) ggL_law_X2_end
set_option maxRecDepth 20000 in
theorem ggL_law_X3_end : GoodIn wsL_law wsX3_end := goodIn_r _ [129, 34, 77, 78, 5, 79, 80, 81, 82, 130, 131, 132, 133, 35, 95, 96, 97, 98, 33, 475, 476, 477, 478, 479, 480, 481, 482, 483, 484, 485] (by decide +kernel) (by decide +kernel)
set_option maxRecDepth 20000 in
theorem gL_law_X3_end : GoodIn wsL_law (wsV RL 22 RX3 yX3_end wsX3_end) := goodIn_app (goodIn_of _ (by decide +kernel)) ggL_law_X3_end
set_option maxRecDepth 20000 in
theorem ggL_law_X2_take : GoodIn wsL_law wsX2_take := goodIn_r _ [137, 47, 48, 49, 2, 50, 13, 107, 108, 109, 110, 111, 112, 113, 114, 115, 116, 117, 118, 119, 120, 121, 138, 139, 140, 17, 141, 24, 58, 142, 143, 144, 145, 72, 486, 487, 488, 468, 469, 470, 471, 472, 473, 474] (by decide +kernel) (by decide +kernel)
set_option maxRecDepth 20000 in
theorem gL_law_X2_take : GoodIn wsL_law (wsV RL 23 RX2 yX2_take wsX2_take) := goodIn_app (goodIn_of _ (by decide +kernel)) ggL_law_X2_take
set_option maxRecDepth 20000 in
theorem ggL_law_X3_take : GoodIn wsL_law wsX3_take := goodIn_r _ [149, 34, 77, 78, 5, 79, 80, 81, 82, 130, 131, 132, 133, 35, 99, 100, 101, 102, 41, 36, 150, 151, 152, 153, 33, 95, 96, 97, 98, 475, 476, 477, 478, 479, 480, 481, 482, 483, 484, 485] (by decide +kernel) (by decide +kernel)
set_option maxRecDepth 20000 in
theorem gL_law_X3_take : GoodIn wsL_law (wsV RL 26 RX3 yX3_take wsX3_take) := goodIn_app (goodIn_of _ (by decide +kernel)) ggL_law_X3_take
set_option maxRecDepth 20000 in
theorem ggL_law_X2_at : GoodIn wsL_law wsX2_at := goodIn_r _ [157, 47, 48, 49, 2, 50, 13, 158, 159, 160, 17, 161, 58, 114, 115, 116, 117, 118, 119, 120, 121, 122, 123, 124, 125, 24, 468, 469, 470, 471, 472, 473, 474, 486, 487, 488] (by decide +kernel) (by decide +kernel)
set_option maxRecDepth 20000 in
theorem gL_law_X2_at : GoodIn wsL_law (wsV RL 27 RX2 yX2_at wsX2_at) := goodIn_app (goodIn_of _ (by decide +kernel)) ggL_law_X2_at
set_option maxRecDepth 20000 in
theorem ggL_law_X3_at : GoodIn wsL_law wsX3_at := goodIn_r _ [165, 34, 77, 78, 5, 79, 80, 81, 82, 95, 96, 97, 98, 33, 130, 131, 132, 133, 35, 475, 476, 477, 478, 479, 480, 481, 482, 483, 484, 485] (by decide +kernel) (by decide +kernel)
set_option maxRecDepth 20000 in
theorem gL_law_X3_at : GoodIn wsL_law (wsV RL 31 RX3 yX3_at wsX3_at) := goodIn_app (goodIn_of _ (by decide +kernel)) ggL_law_X3_at
set_option maxRecDepth 20000 in
theorem ggL_law_X2_lay : GoodIn wsL_law wsX2_lay := goodIn_r _ [169, 47, 48, 49, 2, 50, 13, 51, 52, 53, 158, 159, 160, 17, 161, 58, 114, 115, 116, 117, 118, 119, 120, 121, 59, 60, 61, 62, 63, 170, 171, 172, 173, 24, 468, 469, 470, 471, 472, 473, 474, 486, 487, 488] (by decide +kernel) (by decide +kernel)
set_option maxRecDepth 20000 in
theorem gL_law_X2_lay : GoodIn wsL_law (wsV RL 32 RX2 yX2_lay wsX2_lay) := goodIn_app (goodIn_of _ (by decide +kernel)) ggL_law_X2_lay
set_option maxRecDepth 20000 in
theorem ggL_law_X3_lay : GoodIn wsL_law wsX3_lay := goodIn_r _ [177, 34, 33, 77, 78, 5, 79, 80, 81, 82, 83, 84, 85, 130, 131, 132, 133, 35, 95, 96, 97, 98, 86, 87, 88, 89, 90, 475, 476, 477, 478, 479, 480, 481, 482, 483, 484, 485] (by decide +kernel) (by decide +kernel)
set_option maxRecDepth 20000 in
theorem gL_law_X3_lay : GoodIn wsL_law (wsV RL 36 RX3 yX3_lay wsX3_lay) := goodIn_app (goodIn_of _ (by decide +kernel)) ggL_law_X3_lay
set_option maxRecDepth 20000 in
theorem ggL_law_X2_insert : GoodIn wsL_law wsX2_insert := goodIn_r _ [181, 47, 48, 49, 2, 50, 13, 51, 52, 53, 54, 55, 56, 17, 57, 58, 182, 183, 184, 185, 114, 115, 116, 117, 118, 119, 120, 121, 59, 60, 61, 62, 63, 64, 65, 66, 67, 24, 68, 69, 70, 71, 72, 486, 487, 488, 468, 469, 470, 471, 472, 473, 474] (by decide +kernel) (by decide +kernel)
set_option maxRecDepth 20000 in
theorem gL_law_X2_insert : GoodIn wsL_law (wsV RL 37 RX2 yX2_insert wsX2_insert) := goodIn_app (goodIn_of _ (by decide +kernel)) ggL_law_X2_insert
set_option maxRecDepth 20000 in
theorem ggL_law_X3_insert : GoodIn wsL_law wsX3_insert := goodIn_r _ [189, 34, 77, 78, 5, 79, 80, 81, 82, 83, 84, 85, 130, 131, 132, 133, 35, 86, 87, 88, 89, 90, 91, 92, 93, 94, 33, 95, 96, 97, 98, 99, 100, 101, 102, 41, 36, 475, 476, 477, 478, 479, 480, 481, 482, 483, 484, 485] (by decide +kernel) (by decide +kernel)
set_option maxRecDepth 20000 in
theorem gL_law_X3_insert : GoodIn wsL_law (wsV RL 40 RX3 yX3_insert wsX3_insert) := goodIn_app (goodIn_of _ (by decide +kernel)) ggL_law_X3_insert
set_option maxRecDepth 20000 in
theorem ggL_law_X2_drop : GoodIn wsL_law wsX2_drop := goodIn_r _ [193, 47, 48, 49, 2, 50, 13, 158, 159, 160, 17, 161, 58, 114, 115, 116, 117, 118, 119, 120, 121, 138, 139, 140, 141, 24, 142, 143, 144, 145, 72, 468, 469, 470, 471, 472, 473, 474, 486, 487, 488] (by decide +kernel) (by decide +kernel)
set_option maxRecDepth 20000 in
theorem gL_law_X2_drop : GoodIn wsL_law (wsV RL 41 RX2 yX2_drop wsX2_drop) := goodIn_app (goodIn_of _ (by decide +kernel)) ggL_law_X2_drop
set_option maxRecDepth 20000 in
theorem ggL_law_X3_drop : GoodIn wsL_law wsX3_drop := goodIn_r _ [197, 34, 77, 78, 5, 79, 80, 81, 82, 130, 131, 132, 133, 35, 99, 100, 101, 102, 41, 36, 150, 151, 152, 153, 33, 95, 96, 97, 98, 475, 476, 477, 478, 479, 480, 481, 482, 483, 484, 485] (by decide +kernel) (by decide +kernel)
set_option maxRecDepth 20000 in
theorem gL_law_X3_drop : GoodIn wsL_law (wsV RL 44 RX3 yX3_drop wsX3_drop) := goodIn_app (goodIn_of _ (by decide +kernel)) ggL_law_X3_drop
set_option maxRecDepth 20000 in
theorem ggL_law_X2_find : GoodIn wsL_law wsX2_find := goodIn_r _ [201, 47, 48, 49, 2, 50, 13, 51, 52, 53, 202, 203, 204, 17, 205, 58, 24, 468, 469, 470, 471, 472, 473, 474, 486, 487, 488] (by decide +kernel) (by decide +kernel)
set_option maxRecDepth 20000 in
theorem gL_law_X2_find : GoodIn wsL_law (wsV RL 45 RX2 yX2_find wsX2_find) := goodIn_app (goodIn_of _ (by decide +kernel)) ggL_law_X2_find
set_option maxRecDepth 20000 in
theorem ggL_law_X3_find : GoodIn wsL_law wsX3_find := goodIn_r _ [209, 77, 78, 5, 79, 80, 81, 82, 83, 84, 85, 210, 211, 212, 213, 34, 95, 96, 97, 98, 33, 475, 476, 477, 478, 479, 480, 481, 482, 483, 484, 485] (by decide +kernel) (by decide +kernel)
set_option maxRecDepth 20000 in
theorem gL_law_X3_find : GoodIn wsL_law (wsV RL 49 RX3 yX3_find wsX3_find) := goodIn_app (goodIn_of _ (by decide +kernel)) ggL_law_X3_find
set_option maxRecDepth 20000 in
theorem ggL_law_X2_has : GoodIn wsL_law wsX2_has := goodIn_r _ [217, 47, 48, 49, 2, 50, 13, 51, 52, 53, 202, 203, 204, 17, 205, 58, 24, 218, 219, 220, 468, 469, 470, 471, 472, 473, 474, 486, 487, 488] (by decide +kernel) (by decide +kernel)
set_option maxRecDepth 20000 in
theorem gL_law_X2_has : GoodIn wsL_law (wsV RL 50 RX2 yX2_has wsX2_has) := goodIn_app (goodIn_of _ (by decide +kernel)) ggL_law_X2_has
set_option maxRecDepth 20000 in
theorem ggL_law_X3_has : GoodIn wsL_law wsX3_has := goodIn_r _ [224, 77, 78, 5, 79, 80, 81, 82, 83, 84, 85, 210, 211, 212, 213, 34, 95, 96, 97, 98, 33, 475, 476, 477, 478, 479, 480, 481, 482, 483, 484, 485] (by decide +kernel) (by decide +kernel)
set_option maxRecDepth 20000 in
theorem gL_law_X3_has : GoodIn wsL_law (wsV RL 53 RX3 yX3_has wsX3_has) := goodIn_app (goodIn_of _ (by decide +kernel)) ggL_law_X3_has
set_option maxRecDepth 20000 in
theorem ggL_law_X2_lose : GoodIn wsL_law wsX2_lose := goodIn_r _ [228, 47, 48, 49, 2, 50, 13, 51, 52, 53, 202, 203, 204, 17, 205, 58, 24, 138, 139, 140, 141, 142, 143, 144, 145, 72, 468, 469, 470, 471, 472, 473, 474, 486, 487, 488] (by decide +kernel) (by decide +kernel)
set_option maxRecDepth 20000 in
theorem gL_law_X2_lose : GoodIn wsL_law (wsV RL 54 RX2 yX2_lose wsX2_lose) := goodIn_app (goodIn_of _ (by decide +kernel)) ggL_law_X2_lose
set_option maxRecDepth 20000 in
theorem ggL_law_X3_lose : GoodIn wsL_law wsX3_lose := goodIn_r _ [232, 77, 78, 5, 79, 80, 81, 82, 83, 84, 85, 210, 211, 212, 213, 34, 95, 96, 97, 98, 33, 150, 151, 152, 153, 99, 100, 101, 102, 41, 36, 475, 476, 477, 478, 479, 480, 481, 482, 483, 484, 485] (by decide +kernel) (by decide +kernel)
set_option maxRecDepth 20000 in
theorem gL_law_X3_lose : GoodIn wsL_law (wsV RL 57 RX3 yX3_lose wsX3_lose) := goodIn_app (goodIn_of _ (by decide +kernel)) ggL_law_X3_lose
set_option maxRecDepth 20000 in
theorem ggL_law_X2_all : GoodIn wsL_law wsX2_all := goodIn_r _ [236, 47, 48, 49, 2, 50, 13, 54, 55, 56, 17, 57, 58, 182, 183, 184, 185, 114, 115, 116, 117, 118, 119, 120, 121, 237, 238, 239, 240, 24, 68, 69, 70, 71, 72, 486, 487, 488, 468, 469, 470, 471, 472, 473, 474] (by decide +kernel) (by decide +kernel)
set_option maxRecDepth 20000 in
theorem gL_law_X2_all : GoodIn wsL_law (wsV RL 58 RX2 yX2_all wsX2_all) := goodIn_app (goodIn_of _ (by decide +kernel)) ggL_law_X2_all
set_option maxRecDepth 20000 in
theorem ggL_law_X3_all : GoodIn wsL_law wsX3_all := goodIn_r _ [244, 34, 245, 246, 5, 247, 77, 78, 79, 80, 81, 82, 130, 131, 132, 133, 35, 95, 96, 97, 98, 33, 91, 92, 93, 94, 99, 100, 101, 102, 41, 36, 475, 476, 477, 478, 479, 480, 481, 482, 483, 484, 485] (by decide +kernel) (by decide +kernel)
set_option maxRecDepth 20000 in
theorem gL_law_X3_all : GoodIn wsL_law (wsV RL 61 RX3 yX3_all wsX3_all) := goodIn_app (goodIn_of _ (by decide +kernel)) ggL_law_X3_all
set_option maxRecDepth 20000 in
theorem ggL_law_X2_clear : GoodIn wsL_law wsX2_clear := goodIn_r _ [251, 47, 48, 49, 2, 50, 13, 252, 143, 144, 17, 145, 58, 72, 486, 487, 488, 468, 469, 470, 471, 472, 473, 474] (by decide +kernel) (by decide +kernel)
set_option maxRecDepth 20000 in
theorem gL_law_X2_clear : GoodIn wsL_law (wsV RL 62 RX2 yX2_clear wsX2_clear) := goodIn_app (goodIn_of _ (by decide +kernel)) ggL_law_X2_clear
set_option maxRecDepth 20000 in
theorem ggL_law_X3_clear : GoodIn wsL_law wsX3_clear := goodIn_r _ [256, 34, 77, 78, 5, 79, 80, 81, 82, 99, 100, 101, 102, 41, 36, 475, 476, 477, 478, 479, 480, 481, 482, 483, 484, 485] (by decide +kernel) (by decide +kernel)
set_option maxRecDepth 20000 in
theorem gL_law_X3_clear : GoodIn wsL_law (wsV RL 66 RX3 yX3_clear wsX3_clear) := goodIn_app (goodIn_of _ (by decide +kernel)) ggL_law_X3_clear
set_option maxRecDepth 20000 in
theorem ggL_law_X2_copy : GoodIn wsL_law wsX2_copy := goodIn_r _ [260, 15, 47, 48, 49, 2, 50, 13, 261, 262, 263, 19, 264, 265, 266, 267, 268, 17, 269, 58, 24, 468, 469, 470, 471, 472, 473, 474, 486, 487, 488, 489, 490, 491, 492, 493, 494] (by decide +kernel) (by decide +kernel)
set_option maxRecDepth 20000 in
theorem gL_law_X2_copy : GoodIn wsL_law (wsV RL 67 RX2 yX2_copy wsX2_copy) := goodIn_app (goodIn_of _ (by decide +kernel)) ggL_law_X2_copy
set_option maxRecDepth 20000 in
theorem ggL_law_X3_copy : GoodIn wsL_law wsX3_copy := goodIn_r _ [273, 36, 34, 33, 245, 246, 5, 247, 77, 78, 79, 80, 81, 82, 274, 275, 276, 277, 38, 40, 41, 95, 96, 97, 98, 475, 476, 477, 478, 479, 480, 481, 482, 483, 484, 485] (by decide +kernel) (by decide +kernel)
set_option maxRecDepth 20000 in
theorem gL_law_X3_copy : GoodIn wsL_law (wsV RL 70 RX3 yX3_copy wsX3_copy) := goodIn_app (goodIn_of _ (by decide +kernel)) ggL_law_X3_copy
set_option maxRecDepth 20000 in
theorem ggL_law_X2_turn : GoodIn wsL_law wsX2_turn := goodIn_r _ [281, 47, 48, 49, 2, 50, 13, 282, 283, 284, 17, 285, 58, 24, 286, 171, 172, 173, 486, 487, 488, 468, 469, 470, 471, 472, 473, 474] (by decide +kernel) (by decide +kernel)
set_option maxRecDepth 20000 in
theorem gL_law_X2_turn : GoodIn wsL_law (wsV RL 71 RX2 yX2_turn wsX2_turn) := goodIn_app (goodIn_of _ (by decide +kernel)) ggL_law_X2_turn
set_option maxRecDepth 20000 in
theorem ggL_law_X3_turn : GoodIn wsL_law wsX3_turn := goodIn_r _ [290, 34, 42, 33, 77, 78, 5, 79, 80, 81, 82, 95, 96, 97, 98, 475, 476, 477, 478, 479, 480, 481, 482, 483, 484, 485] (by decide +kernel) (by decide +kernel)
set_option maxRecDepth 20000 in
theorem gL_law_X3_turn : GoodIn wsL_law (wsV RL 74 RX3 yX3_turn wsX3_turn) := goodIn_app (goodIn_of _ (by decide +kernel)) ggL_law_X3_turn
set_option maxRecDepth 20000 in
theorem ggL_law_X2_weave : GoodIn wsL_law wsX2_weave := goodIn_r _ [294, 47, 48, 49, 2, 50, 13, 54, 55, 56, 17, 57, 58, 295, 296, 297, 298, 299, 300, 301, 302, 24, 68, 69, 70, 71, 72, 486, 487, 488, 468, 469, 470, 471, 472, 473, 474] (by decide +kernel) (by decide +kernel)
set_option maxRecDepth 20000 in
theorem gL_law_X2_weave : GoodIn wsL_law (wsV RL 75 RX2 yX2_weave wsX2_weave) := goodIn_app (goodIn_of _ (by decide +kernel)) ggL_law_X2_weave
set_option maxRecDepth 20000 in
theorem ggL_law_X3_weave : GoodIn wsL_law wsX3_weave := goodIn_r _ [306, 34, 42, 33, 245, 246, 5, 247, 77, 78, 79, 80, 81, 82, 95, 96, 97, 98, 99, 100, 101, 102, 41, 36, 475, 476, 477, 478, 479, 480, 481, 482, 483, 484, 485] (by decide +kernel) (by decide +kernel)
set_option maxRecDepth 20000 in
theorem gL_law_X3_weave : GoodIn wsL_law (wsV RL 78 RX3 yX3_weave wsX3_weave) := goodIn_app (goodIn_of _ (by decide +kernel)) ggL_law_X3_weave
set_option maxRecDepth 20000 in
theorem ggL_law_X2_prune : GoodIn wsL_law wsX2_prune := goodIn_r _ [310, 47, 48, 49, 2, 50, 13, 311, 312, 313, 17, 314, 58, 24, 142, 143, 144, 145, 72, 468, 469, 470, 471, 472, 473, 474, 486, 487, 488] (by decide +kernel) (by decide +kernel)
set_option maxRecDepth 20000 in
theorem gL_law_X2_prune : GoodIn wsL_law (wsV RL 79 RX2 yX2_prune wsX2_prune) := goodIn_app (goodIn_of _ (by decide +kernel)) ggL_law_X2_prune
set_option maxRecDepth 20000 in
theorem ggL_law_X3_prune : GoodIn wsL_law wsX3_prune := goodIn_r _ [318, 34, 33, 77, 78, 5, 79, 80, 81, 82, 95, 96, 97, 98, 99, 100, 101, 102, 41, 36, 475, 476, 477, 478, 479, 480, 481, 482, 483, 484, 485] (by decide +kernel) (by decide +kernel)
set_option maxRecDepth 20000 in
theorem gL_law_X3_prune : GoodIn wsL_law (wsV RL 82 RX3 yX3_prune wsX3_prune) := goodIn_app (goodIn_of _ (by decide +kernel)) ggL_law_X3_prune
set_option maxRecDepth 20000 in
theorem ggL_law_X2_size : GoodIn wsL_law wsX2_size := goodIn_r _ [322, 47, 48, 49, 2, 50, 13, 486, 487, 488, 468, 469, 470, 471, 472, 473, 474] (by decide +kernel) (by decide +kernel)
set_option maxRecDepth 20000 in
theorem gL_law_X2_size : GoodIn wsL_law (wsV RL 83 RX2 yX2_size wsX2_size) := goodIn_app (goodIn_of _ (by decide +kernel)) ggL_law_X2_size
set_option maxRecDepth 20000 in
theorem ggL_law_X3_size : GoodIn wsL_law wsX3_size := goodIn_r _ [326, 34, 77, 78, 5, 79, 80, 81, 82, 475, 476, 477, 478, 479, 480, 481, 482, 483, 484, 485] (by decide +kernel) (by decide +kernel)
set_option maxRecDepth 20000 in
theorem gL_law_X3_size : GoodIn wsL_law (wsV RL 86 RX3 yX3_size wsX3_size) := goodIn_app (goodIn_of _ (by decide +kernel)) ggL_law_X3_size
set_option maxRecDepth 20000 in
theorem ggL_law_X2_sum : GoodIn wsL_law wsX2_sum := goodIn_r _ [330, 47, 48, 49, 2, 50, 13, 331, 332, 333, 17, 334, 58, 24, 335, 468, 469, 470, 471, 472, 473, 474, 486, 487, 488] (by decide +kernel) (by decide +kernel)
set_option maxRecDepth 20000 in
theorem gL_law_X2_sum : GoodIn wsL_law (wsV RL 87 RX2 yX2_sum wsX2_sum) := goodIn_app (goodIn_of _ (by decide +kernel)) ggL_law_X2_sum
set_option maxRecDepth 20000 in
theorem ggL_law_X3_sum : GoodIn wsL_law wsX3_sum := goodIn_r _ [339, 34, 340, 77, 78, 5, 79, 80, 81, 82, 95, 96, 97, 98, 33, 475, 476, 477, 478, 479, 480, 481, 482, 483, 484, 485] (by decide +kernel) (by decide +kernel)
set_option maxRecDepth 20000 in
theorem gL_law_X3_sum : GoodIn wsL_law (wsV RL 90 RX3 yX3_sum wsX3_sum) := goodIn_app (goodIn_of _ (by decide +kernel)) ggL_law_X3_sum
set_option maxRecDepth 20000 in
theorem ggL_law_X2_peg : GoodIn wsL_law wsX2_peg := goodIn_r _ [344, 345, 346, 347, 2, 348, 15, 47, 48, 49, 50, 13, 182, 183, 184, 17, 185, 58, 114, 115, 116, 117, 118, 119, 120, 121, 349, 350, 351, 19, 352, 265, 353, 354, 28, 355, 468, 469, 470, 471, 472, 473, 474, 486, 487, 488, 489, 490, 491, 492, 493, 494] (by decide +kernel) (by decide +kernel)
set_option maxRecDepth 20000 in
theorem gL_law_X2_peg : GoodIn wsL_law (wsV RL 91 RX2 yX2_peg wsX2_peg) := goodIn_app (goodIn_of _ (by decide +kernel)) ggL_law_X2_peg
set_option maxRecDepth 20000 in
theorem ggL_law_X3_peg : GoodIn wsL_law wsX3_peg := goodIn_r _ [359, 34, 36, 37, 360, 361, 5, 362, 80, 81, 82, 77, 78, 79, 130, 131, 132, 133, 35, 274, 275, 276, 277, 38, 40, 41, 475, 476, 477, 478, 479, 480, 481, 482, 483, 484, 485] (by decide +kernel) (by decide +kernel)
set_option maxRecDepth 20000 in
theorem gL_law_X3_peg : GoodIn wsL_law (wsV RL 94 RX3 yX3_peg wsX3_peg) := goodIn_app (goodIn_of _ (by decide +kernel)) ggL_law_X3_peg
set_option maxRecDepth 20000 in
theorem ggL_law_X2_next : GoodIn wsL_law wsX2_next := goodIn_r _ [366, 367, 368, 369, 2, 370, 345, 346, 347, 348, 15, 114, 115, 116, 117, 118, 119, 120, 121, 158, 159, 160, 17, 161, 58, 122, 123, 124, 125, 24, 371, 372, 373, 19, 374, 28, 375, 355, 489, 490, 491, 492, 493, 494, 486, 487, 488, 468, 469, 470, 471, 472, 473, 474] (by decide +kernel) (by decide +kernel)
set_option maxRecDepth 20000 in
theorem gL_law_X2_next : GoodIn wsL_law (wsV RL 95 RX2 yX2_next wsX2_next) := goodIn_app (goodIn_of _ (by decide +kernel)) ggL_law_X2_next
set_option maxRecDepth 20000 in
theorem ggL_law_X3_next : GoodIn wsL_law wsX3_next := goodIn_r _ [379, 37, 360, 361, 5, 362, 80, 81, 82, 380, 381, 382, 383, 36, 41, 130, 131, 132, 133, 35, 384, 385, 386, 387, 34, 40, 38, 39, 95, 96, 97, 98, 33, 475, 476, 477, 478, 479, 480, 481, 482, 483, 484, 485] (by decide +kernel) (by decide +kernel)
set_option maxRecDepth 20000 in
theorem gL_law_X3_next : GoodIn wsL_law (wsV RL 98 RX3 yX3_next wsX3_next) := goodIn_app (goodIn_of _ (by decide +kernel)) ggL_law_X3_next
set_option maxRecDepth 20000 in
theorem ggL_law_X2_previous : GoodIn wsL_law wsX2_previous := goodIn_r _ [391, 367, 368, 369, 2, 370, 345, 346, 347, 348, 15, 114, 115, 116, 117, 118, 119, 120, 121, 158, 159, 160, 17, 161, 58, 122, 123, 124, 125, 24, 371, 372, 373, 19, 374, 28, 375, 355, 489, 490, 491, 492, 493, 494, 486, 487, 488, 468, 469, 470, 471, 472, 473, 474] (by decide +kernel) (by decide +kernel)
set_option maxRecDepth 20000 in
theorem gL_law_X2_previous : GoodIn wsL_law (wsV RL 99 RX2 yX2_previous wsX2_previous) := goodIn_app (goodIn_of _ (by decide +kernel)) ggL_law_X2_previous
set_option maxRecDepth 20000 in
theorem ggL_law_X3_previous : GoodIn wsL_law wsX3_previous := goodIn_r _ [395, 37, 360, 361, 5, 362, 80, 81, 82, 380, 381, 382, 383, 36, 41, 130, 131, 132, 133, 35, 384, 385, 386, 387, 34, 40, 38, 39, 95, 96, 97, 98, 33, 475, 476, 477, 478, 479, 480, 481, 482, 483, 484, 485] (by decide +kernel) (by decide +kernel)
set_option maxRecDepth 20000 in
theorem gL_law_X3_previous : GoodIn wsL_law (wsV RL 102 RX3 yX3_previous wsX3_previous) := goodIn_app (goodIn_of _ (by decide +kernel)) ggL_law_X3_previous
set_option maxRecDepth 20000 in
theorem ggL_law_X2_side : GoodIn wsL_law wsX2_side := goodIn_r _ [399, 345, 346, 347, 2, 348, 15, 218, 219, 220, 489, 490, 491, 492, 493, 494, 486, 487, 488, 468, 469, 470, 471, 472, 473, 474] (by decide +kernel) (by decide +kernel)
set_option maxRecDepth 20000 in
theorem gL_law_X2_side : GoodIn wsL_law (wsV RL 103 RX2 yX2_side wsX2_side) := goodIn_app (goodIn_of _ (by decide +kernel)) ggL_law_X2_side
set_option maxRecDepth 20000 in
theorem ggL_law_X3_side : GoodIn wsL_law wsX3_side := goodIn_r _ [403, 36, 41, 37, 34, 360, 361, 5, 362, 80, 81, 82, 475, 476, 477, 478, 479, 480, 481, 482, 483, 484, 485] (by decide +kernel) (by decide +kernel)
set_option maxRecDepth 20000 in
theorem gL_law_X3_side : GoodIn wsL_law (wsV RL 106 RX3 yX3_side wsX3_side) := goodIn_app (goodIn_of _ (by decide +kernel)) ggL_law_X3_side
set_option maxRecDepth 20000 in
theorem ggL_law_X2_change : GoodIn wsL_law wsX2_change := goodIn_r _ [407, 345, 346, 347, 2, 348, 15, 51, 52, 53, 408, 409, 410, 411, 114, 115, 116, 117, 118, 119, 120, 121, 158, 159, 160, 17, 161, 58, 122, 123, 124, 125, 24, 59, 60, 61, 62, 63, 371, 372, 373, 19, 374, 28, 375, 355, 170, 171, 172, 173, 489, 490, 491, 492, 493, 494, 468, 469, 470, 471, 472, 473, 474, 486, 487, 488] (by decide +kernel) (by decide +kernel)
set_option maxRecDepth 20000 in
theorem gL_law_X2_change : GoodIn wsL_law (wsV RL 107 RX2 yX2_change wsX2_change) := goodIn_app (goodIn_of _ (by decide +kernel)) ggL_law_X2_change
set_option maxRecDepth 20000 in
theorem ggL_law_X3_change : GoodIn wsL_law wsX3_change := goodIn_r _ [415, 38, 33, 36, 39, 360, 361, 5, 362, 80, 81, 82, 83, 84, 85, 416, 417, 418, 419, 40, 380, 381, 382, 383, 41, 130, 131, 132, 133, 35, 95, 96, 97, 98, 86, 87, 88, 89, 90, 475, 476, 477, 478, 479, 480, 481, 482, 483, 484, 485] (by decide +kernel) (by decide +kernel)
set_option maxRecDepth 20000 in
theorem gL_law_X3_change : GoodIn wsL_law (wsV RL 110 RX3 yX3_change wsX3_change) := goodIn_app (goodIn_of _ (by decide +kernel)) ggL_law_X3_change
set_option maxRecDepth 20000 in
theorem ggL_law_X2_add : GoodIn wsL_law wsX2_add := goodIn_r _ [423, 345, 346, 347, 2, 348, 15, 51, 52, 53, 54, 55, 56, 17, 57, 58, 114, 115, 116, 117, 118, 119, 120, 121, 59, 60, 61, 62, 63, 64, 65, 66, 67, 24, 68, 69, 70, 71, 72, 349, 350, 351, 19, 352, 265, 353, 354, 28, 355, 489, 490, 491, 492, 493, 494, 486, 487, 488, 468, 469, 470, 471, 472, 473, 474] (by decide +kernel) (by decide +kernel)
set_option maxRecDepth 20000 in
theorem gL_law_X2_add : GoodIn wsL_law (wsV RL 111 RX2 yX2_add wsX2_add) := goodIn_app (goodIn_of _ (by decide +kernel)) ggL_law_X2_add
set_option maxRecDepth 20000 in
theorem ggL_law_X3_add : GoodIn wsL_law wsX3_add := goodIn_r _ [427, 36, 34, 37, 38, 40, 360, 361, 5, 362, 80, 81, 82, 83, 84, 85, 380, 381, 382, 383, 41, 130, 131, 132, 133, 35, 86, 87, 88, 89, 90, 91, 92, 93, 94, 33, 95, 96, 97, 98, 99, 100, 101, 102, 475, 476, 477, 478, 479, 480, 481, 482, 483, 484, 485] (by decide +kernel) (by decide +kernel)
set_option maxRecDepth 20000 in
theorem gL_law_X3_add : GoodIn wsL_law (wsV RL 114 RX3 yX3_add wsX3_add) := goodIn_app (goodIn_of _ (by decide +kernel)) ggL_law_X3_add
set_option maxRecDepth 20000 in
theorem ggL_law_X2_remove : GoodIn wsL_law wsX2_remove := goodIn_r _ [431, 345, 346, 347, 2, 348, 15, 408, 409, 410, 411, 114, 115, 116, 117, 118, 119, 120, 121, 158, 159, 160, 17, 161, 58, 122, 123, 124, 125, 24, 138, 139, 140, 141, 142, 143, 144, 145, 72, 349, 350, 351, 19, 352, 265, 353, 354, 28, 355, 489, 490, 491, 492, 493, 494, 468, 469, 470, 471, 472, 473, 474, 486, 487, 488] (by decide +kernel) (by decide +kernel)
set_option maxRecDepth 20000 in
theorem gL_law_X2_remove : GoodIn wsL_law (wsV RL 115 RX2 yX2_remove wsX2_remove) := goodIn_app (goodIn_of _ (by decide +kernel)) ggL_law_X2_remove
set_option maxRecDepth 20000 in
theorem ggL_law_X3_remove : GoodIn wsL_law wsX3_remove := goodIn_r _ [435, 36, 39, 37, 38, 360, 361, 5, 362, 80, 81, 82, 416, 417, 418, 419, 40, 380, 381, 382, 383, 41, 130, 131, 132, 133, 35, 95, 96, 97, 98, 33, 150, 151, 152, 153, 34, 99, 100, 101, 102, 475, 476, 477, 478, 479, 480, 481, 482, 483, 484, 485] (by decide +kernel) (by decide +kernel)
set_option maxRecDepth 20000 in
theorem gL_law_X3_remove : GoodIn wsL_law (wsV RL 118 RX3 yX3_remove wsX3_remove) := goodIn_app (goodIn_of _ (by decide +kernel)) ggL_law_X3_remove
set_option maxRecDepth 20000 in
theorem ggL_law_X2_old : GoodIn wsL_law wsX2_old := goodIn_r _ [439, 345, 346, 347, 2, 348, 15, 440, 441, 442, 19, 443, 265, 354, 218, 219, 220, 489, 490, 491, 492, 493, 494, 468, 469, 470, 471, 472, 473, 474, 486, 487, 488] (by decide +kernel) (by decide +kernel)
set_option maxRecDepth 20000 in
theorem gL_law_X2_old : GoodIn wsL_law (wsV RL 119 RX2 yX2_old wsX2_old) := goodIn_app (goodIn_of _ (by decide +kernel)) ggL_law_X2_old
set_option maxRecDepth 20000 in
theorem ggL_law_X3_old : GoodIn wsL_law wsX3_old := goodIn_r _ [447, 36, 41, 360, 361, 5, 362, 80, 81, 82, 475, 476, 477, 478, 479, 480, 481, 482, 483, 484, 485] (by decide +kernel) (by decide +kernel)
set_option maxRecDepth 20000 in
theorem gL_law_X3_old : GoodIn wsL_law (wsV RL 122 RX3 yX3_old wsX3_old) := goodIn_app (goodIn_of _ (by decide +kernel)) ggL_law_X3_old
set_option maxRecDepth 20000 in
theorem ggL_law_X2_count : GoodIn wsL_law wsX2_count := goodIn_r _ [451, 63, 118, 119, 120, 121, 452, 453, 454, 2, 455, 15, 456, 457, 458, 459, 440, 441, 442, 19, 443, 265, 354, 468, 469, 470, 471, 472, 473, 474, 489, 490, 491, 492, 493, 494, 486, 487, 488] (by decide +kernel) (by decide +kernel)
set_option maxRecDepth 20000 in
theorem gL_law_X2_count : GoodIn wsL_law (wsV RL 123 RX2 yX2_count wsX2_count) := goodIn_app (goodIn_of _ (by decide +kernel)) ggL_law_X2_count
set_option maxRecDepth 20000 in
theorem ggL_law_X3_count : GoodIn wsL_law wsX3_count := goodIn_r _ [463, 90, 35, 41, 80, 81, 5, 82, 464, 465, 466, 467, 36, 475, 476, 477, 478, 479, 480, 481, 482, 483, 484, 485] (by decide +kernel) (by decide +kernel)
set_option maxRecDepth 20000 in
theorem gL_law_X3_count : GoodIn wsL_law (wsV RL 126 RX3 yX3_count wsX3_count) := goodIn_app (goodIn_of _ (by decide +kernel)) ggL_law_X3_count
end
section
theorem dL_law_0 : decode cL_law 0 = .ok (.new 7, 3) := by decide +kernel
theorem dL_law_3 : decode cL_law 3 = .ok (.dup, 1) := by decide +kernel
theorem dL_law_4 : decode cL_law 4 = .ok (.invokespecial 9, 3) := by decide +kernel
theorem dL_law_7 : decode cL_law 7 = .ok (.astore_n 1, 1) := by decide +kernel
theorem dL_law_8 : decode cL_law 8 = .ok (.new 10, 3) := by decide +kernel
theorem dL_law_11 : decode cL_law 11 = .ok (.dup, 1) := by decide +kernel
theorem dL_law_12 : decode cL_law 12 = .ok (.invokespecial 12, 3) := by decide +kernel
theorem dL_law_15 : decode cL_law 15 = .ok (.astore_n 2, 1) := by decide +kernel
theorem dL_law_16 : decode cL_law 16 = .ok (.iconst 0, 1) := by decide +kernel
theorem dL_law_17 : decode cL_law 17 = .ok (.istore_n 3, 1) := by decide +kernel
theorem dL_law_18 : decode cL_law 18 = .ok (.iload_n 3, 1) := by decide +kernel
theorem dL_law_19 : decode cL_law 19 = .ok (.aload_n 0, 1) := by decide +kernel
theorem dL_law_20 : decode cL_law 20 = .ok (.arraylength, 1) := by decide +kernel
theorem dL_law_21 : decode cL_law 21 = .ok (.iconst 5, 1) := by decide +kernel
theorem dL_law_22 : decode cL_law 22 = .ok (.isub, 1) := by decide +kernel
theorem dL_law_23 : decode cL_law 23 = .ok (.if_icmp .gt 1094, 3) := by decide +kernel
theorem dL_law_26 : decode cL_law 26 = .ok (.aload_n 0, 1) := by decide +kernel
theorem dL_law_27 : decode cL_law 27 = .ok (.iload_n 3, 1) := by decide +kernel
theorem dL_law_28 : decode cL_law 28 = .ok (.iaload, 1) := by decide +kernel
theorem dL_law_29 : decode cL_law 29 = .ok (.bipush 31, 2) := by decide +kernel
theorem dL_law_31 : decode cL_law 31 = .ok (.iand, 1) := by decide +kernel
theorem dL_law_32 : decode cL_law 32 = .ok (.tableswitch 1079 0 26 #[124, 193, 252, 311, 344, 387, 430, 463, 522, 555, 598, 641, 664, 697, 720, 753, 776, 799, 822, 865, 888, 911, 944, 977, 1010, 1033, 1056], 124) := by decide +kernel
theorem dL_law_156 : decode cL_law 156 = .ok (.aload_n 1, 1) := by decide +kernel
theorem dL_law_157 : decode cL_law 157 = .ok (.aload_n 0, 1) := by decide +kernel
theorem dL_law_158 : decode cL_law 158 = .ok (.iload_n 3, 1) := by decide +kernel
theorem dL_law_159 : decode cL_law 159 = .ok (.iconst 1, 1) := by decide +kernel
theorem dL_law_160 : decode cL_law 160 = .ok (.iadd, 1) := by decide +kernel
theorem dL_law_161 : decode cL_law 161 = .ok (.iaload, 1) := by decide +kernel
theorem dL_law_162 : decode cL_law 162 = .ok (.aload_n 0, 1) := by decide +kernel
theorem dL_law_163 : decode cL_law 163 = .ok (.iload_n 3, 1) := by decide +kernel
theorem dL_law_164 : decode cL_law 164 = .ok (.iconst 2, 1) := by decide +kernel
theorem dL_law_165 : decode cL_law 165 = .ok (.iadd, 1) := by decide +kernel
theorem dL_law_166 : decode cL_law 166 = .ok (.iaload, 1) := by decide +kernel
theorem dL_law_167 : decode cL_law 167 = .ok (.aload_n 0, 1) := by decide +kernel
theorem dL_law_168 : decode cL_law 168 = .ok (.iload_n 3, 1) := by decide +kernel
theorem dL_law_169 : decode cL_law 169 = .ok (.iconst 3, 1) := by decide +kernel
theorem dL_law_170 : decode cL_law 170 = .ok (.iadd, 1) := by decide +kernel
theorem dL_law_171 : decode cL_law 171 = .ok (.iaload, 1) := by decide +kernel
theorem dL_law_172 : decode cL_law 172 = .ok (.ifCond .eq 7, 3) := by decide +kernel
theorem dL_law_175 : decode cL_law 175 = .ok (.iconst 1, 1) := by decide +kernel
theorem dL_law_176 : decode cL_law 176 = .ok (.goto 4, 3) := by decide +kernel
theorem dL_law_179 : decode cL_law 179 = .ok (.iconst 0, 1) := by decide +kernel
theorem dL_law_180 : decode cL_law 180 = .ok (.aload_n 0, 1) := by decide +kernel
theorem dL_law_181 : decode cL_law 181 = .ok (.iload_n 3, 1) := by decide +kernel
theorem dL_law_182 : decode cL_law 182 = .ok (.iconst 4, 1) := by decide +kernel
theorem dL_law_183 : decode cL_law 183 = .ok (.iadd, 1) := by decide +kernel
theorem dL_law_184 : decode cL_law 184 = .ok (.iaload, 1) := by decide +kernel
theorem dL_law_185 : decode cL_law 185 = .ok (.invokevirtual 13, 3) := by decide +kernel
theorem dL_law_188 : decode cL_law 188 = .ok (.aload_n 2, 1) := by decide +kernel
theorem dL_law_189 : decode cL_law 189 = .ok (.aload_n 0, 1) := by decide +kernel
theorem dL_law_190 : decode cL_law 190 = .ok (.iload_n 3, 1) := by decide +kernel
theorem dL_law_191 : decode cL_law 191 = .ok (.iconst 1, 1) := by decide +kernel
theorem dL_law_192 : decode cL_law 192 = .ok (.iadd, 1) := by decide +kernel
theorem dL_law_193 : decode cL_law 193 = .ok (.iaload, 1) := by decide +kernel
theorem dL_law_194 : decode cL_law 194 = .ok (.aload_n 0, 1) := by decide +kernel
theorem dL_law_195 : decode cL_law 195 = .ok (.iload_n 3, 1) := by decide +kernel
theorem dL_law_196 : decode cL_law 196 = .ok (.iconst 2, 1) := by decide +kernel
theorem dL_law_197 : decode cL_law 197 = .ok (.iadd, 1) := by decide +kernel
theorem dL_law_198 : decode cL_law 198 = .ok (.iaload, 1) := by decide +kernel
theorem dL_law_199 : decode cL_law 199 = .ok (.aload_n 0, 1) := by decide +kernel
theorem dL_law_200 : decode cL_law 200 = .ok (.iload_n 3, 1) := by decide +kernel
theorem dL_law_201 : decode cL_law 201 = .ok (.iconst 3, 1) := by decide +kernel
theorem dL_law_202 : decode cL_law 202 = .ok (.iadd, 1) := by decide +kernel
theorem dL_law_203 : decode cL_law 203 = .ok (.iaload, 1) := by decide +kernel
theorem dL_law_204 : decode cL_law 204 = .ok (.ifCond .eq 7, 3) := by decide +kernel
theorem dL_law_207 : decode cL_law 207 = .ok (.iconst 1, 1) := by decide +kernel
theorem dL_law_208 : decode cL_law 208 = .ok (.goto 4, 3) := by decide +kernel
theorem dL_law_211 : decode cL_law 211 = .ok (.iconst 0, 1) := by decide +kernel
theorem dL_law_212 : decode cL_law 212 = .ok (.aload_n 0, 1) := by decide +kernel
theorem dL_law_213 : decode cL_law 213 = .ok (.iload_n 3, 1) := by decide +kernel
theorem dL_law_214 : decode cL_law 214 = .ok (.iconst 4, 1) := by decide +kernel
theorem dL_law_215 : decode cL_law 215 = .ok (.iadd, 1) := by decide +kernel
theorem dL_law_216 : decode cL_law 216 = .ok (.iaload, 1) := by decide +kernel
theorem dL_law_217 : decode cL_law 217 = .ok (.invokevirtual 17, 3) := by decide +kernel
theorem dL_law_220 : decode cL_law 220 = .ok (.if_icmp .eq 891, 3) := by decide +kernel
theorem dL_law_223 : decode cL_law 223 = .ok (.iconst 0, 1) := by decide +kernel
theorem dL_law_224 : decode cL_law 224 = .ok (.ireturn, 1) := by decide +kernel
theorem dL_law_225 : decode cL_law 225 = .ok (.aload_n 1, 1) := by decide +kernel
theorem dL_law_226 : decode cL_law 226 = .ok (.aload_n 0, 1) := by decide +kernel
theorem dL_law_227 : decode cL_law 227 = .ok (.iload_n 3, 1) := by decide +kernel
theorem dL_law_228 : decode cL_law 228 = .ok (.iconst 1, 1) := by decide +kernel
theorem dL_law_229 : decode cL_law 229 = .ok (.iadd, 1) := by decide +kernel
theorem dL_law_230 : decode cL_law 230 = .ok (.iaload, 1) := by decide +kernel
theorem dL_law_231 : decode cL_law 231 = .ok (.aload_n 0, 1) := by decide +kernel
theorem dL_law_232 : decode cL_law 232 = .ok (.iload_n 3, 1) := by decide +kernel
theorem dL_law_233 : decode cL_law 233 = .ok (.iconst 2, 1) := by decide +kernel
theorem dL_law_234 : decode cL_law 234 = .ok (.iadd, 1) := by decide +kernel
theorem dL_law_235 : decode cL_law 235 = .ok (.iaload, 1) := by decide +kernel
theorem dL_law_236 : decode cL_law 236 = .ok (.ifCond .eq 7, 3) := by decide +kernel
theorem dL_law_239 : decode cL_law 239 = .ok (.iconst 1, 1) := by decide +kernel
theorem dL_law_240 : decode cL_law 240 = .ok (.goto 4, 3) := by decide +kernel
theorem dL_law_243 : decode cL_law 243 = .ok (.iconst 0, 1) := by decide +kernel
theorem dL_law_244 : decode cL_law 244 = .ok (.aload_n 0, 1) := by decide +kernel
theorem dL_law_245 : decode cL_law 245 = .ok (.iload_n 3, 1) := by decide +kernel
theorem dL_law_246 : decode cL_law 246 = .ok (.iconst 3, 1) := by decide +kernel
theorem dL_law_247 : decode cL_law 247 = .ok (.iadd, 1) := by decide +kernel
theorem dL_law_248 : decode cL_law 248 = .ok (.iaload, 1) := by decide +kernel
theorem dL_law_249 : decode cL_law 249 = .ok (.invokevirtual 18, 3) := by decide +kernel
theorem dL_law_252 : decode cL_law 252 = .ok (.aload_n 2, 1) := by decide +kernel
end
section
theorem dL_law_253 : decode cL_law 253 = .ok (.aload_n 0, 1) := by decide +kernel
theorem dL_law_254 : decode cL_law 254 = .ok (.iload_n 3, 1) := by decide +kernel
theorem dL_law_255 : decode cL_law 255 = .ok (.iconst 1, 1) := by decide +kernel
theorem dL_law_256 : decode cL_law 256 = .ok (.iadd, 1) := by decide +kernel
theorem dL_law_257 : decode cL_law 257 = .ok (.iaload, 1) := by decide +kernel
theorem dL_law_258 : decode cL_law 258 = .ok (.aload_n 0, 1) := by decide +kernel
theorem dL_law_259 : decode cL_law 259 = .ok (.iload_n 3, 1) := by decide +kernel
theorem dL_law_260 : decode cL_law 260 = .ok (.iconst 2, 1) := by decide +kernel
theorem dL_law_261 : decode cL_law 261 = .ok (.iadd, 1) := by decide +kernel
theorem dL_law_262 : decode cL_law 262 = .ok (.iaload, 1) := by decide +kernel
theorem dL_law_263 : decode cL_law 263 = .ok (.ifCond .eq 7, 3) := by decide +kernel
theorem dL_law_266 : decode cL_law 266 = .ok (.iconst 1, 1) := by decide +kernel
theorem dL_law_267 : decode cL_law 267 = .ok (.goto 4, 3) := by decide +kernel
theorem dL_law_270 : decode cL_law 270 = .ok (.iconst 0, 1) := by decide +kernel
theorem dL_law_271 : decode cL_law 271 = .ok (.aload_n 0, 1) := by decide +kernel
theorem dL_law_272 : decode cL_law 272 = .ok (.iload_n 3, 1) := by decide +kernel
theorem dL_law_273 : decode cL_law 273 = .ok (.iconst 3, 1) := by decide +kernel
theorem dL_law_274 : decode cL_law 274 = .ok (.iadd, 1) := by decide +kernel
theorem dL_law_275 : decode cL_law 275 = .ok (.iaload, 1) := by decide +kernel
theorem dL_law_276 : decode cL_law 276 = .ok (.invokevirtual 22, 3) := by decide +kernel
theorem dL_law_279 : decode cL_law 279 = .ok (.if_icmp .eq 832, 3) := by decide +kernel
theorem dL_law_282 : decode cL_law 282 = .ok (.iconst 0, 1) := by decide +kernel
theorem dL_law_283 : decode cL_law 283 = .ok (.ireturn, 1) := by decide +kernel
theorem dL_law_284 : decode cL_law 284 = .ok (.aload_n 1, 1) := by decide +kernel
theorem dL_law_285 : decode cL_law 285 = .ok (.aload_n 0, 1) := by decide +kernel
theorem dL_law_286 : decode cL_law 286 = .ok (.iload_n 3, 1) := by decide +kernel
theorem dL_law_287 : decode cL_law 287 = .ok (.iconst 1, 1) := by decide +kernel
theorem dL_law_288 : decode cL_law 288 = .ok (.iadd, 1) := by decide +kernel
theorem dL_law_289 : decode cL_law 289 = .ok (.iaload, 1) := by decide +kernel
theorem dL_law_290 : decode cL_law 290 = .ok (.aload_n 0, 1) := by decide +kernel
theorem dL_law_291 : decode cL_law 291 = .ok (.iload_n 3, 1) := by decide +kernel
theorem dL_law_292 : decode cL_law 292 = .ok (.iconst 2, 1) := by decide +kernel
theorem dL_law_293 : decode cL_law 293 = .ok (.iadd, 1) := by decide +kernel
theorem dL_law_294 : decode cL_law 294 = .ok (.iaload, 1) := by decide +kernel
theorem dL_law_295 : decode cL_law 295 = .ok (.ifCond .eq 7, 3) := by decide +kernel
theorem dL_law_298 : decode cL_law 298 = .ok (.iconst 1, 1) := by decide +kernel
theorem dL_law_299 : decode cL_law 299 = .ok (.goto 4, 3) := by decide +kernel
theorem dL_law_302 : decode cL_law 302 = .ok (.iconst 0, 1) := by decide +kernel
theorem dL_law_303 : decode cL_law 303 = .ok (.aload_n 0, 1) := by decide +kernel
theorem dL_law_304 : decode cL_law 304 = .ok (.iload_n 3, 1) := by decide +kernel
theorem dL_law_305 : decode cL_law 305 = .ok (.iconst 3, 1) := by decide +kernel
theorem dL_law_306 : decode cL_law 306 = .ok (.iadd, 1) := by decide +kernel
theorem dL_law_307 : decode cL_law 307 = .ok (.iaload, 1) := by decide +kernel
theorem dL_law_308 : decode cL_law 308 = .ok (.invokevirtual 23, 3) := by decide +kernel
theorem dL_law_311 : decode cL_law 311 = .ok (.aload_n 2, 1) := by decide +kernel
theorem dL_law_312 : decode cL_law 312 = .ok (.aload_n 0, 1) := by decide +kernel
theorem dL_law_313 : decode cL_law 313 = .ok (.iload_n 3, 1) := by decide +kernel
theorem dL_law_314 : decode cL_law 314 = .ok (.iconst 1, 1) := by decide +kernel
theorem dL_law_315 : decode cL_law 315 = .ok (.iadd, 1) := by decide +kernel
theorem dL_law_316 : decode cL_law 316 = .ok (.iaload, 1) := by decide +kernel
theorem dL_law_317 : decode cL_law 317 = .ok (.aload_n 0, 1) := by decide +kernel
theorem dL_law_318 : decode cL_law 318 = .ok (.iload_n 3, 1) := by decide +kernel
theorem dL_law_319 : decode cL_law 319 = .ok (.iconst 2, 1) := by decide +kernel
theorem dL_law_320 : decode cL_law 320 = .ok (.iadd, 1) := by decide +kernel
theorem dL_law_321 : decode cL_law 321 = .ok (.iaload, 1) := by decide +kernel
theorem dL_law_322 : decode cL_law 322 = .ok (.ifCond .eq 7, 3) := by decide +kernel
theorem dL_law_325 : decode cL_law 325 = .ok (.iconst 1, 1) := by decide +kernel
theorem dL_law_326 : decode cL_law 326 = .ok (.goto 4, 3) := by decide +kernel
theorem dL_law_329 : decode cL_law 329 = .ok (.iconst 0, 1) := by decide +kernel
theorem dL_law_330 : decode cL_law 330 = .ok (.aload_n 0, 1) := by decide +kernel
theorem dL_law_331 : decode cL_law 331 = .ok (.iload_n 3, 1) := by decide +kernel
theorem dL_law_332 : decode cL_law 332 = .ok (.iconst 3, 1) := by decide +kernel
theorem dL_law_333 : decode cL_law 333 = .ok (.iadd, 1) := by decide +kernel
theorem dL_law_334 : decode cL_law 334 = .ok (.iaload, 1) := by decide +kernel
theorem dL_law_335 : decode cL_law 335 = .ok (.invokevirtual 26, 3) := by decide +kernel
theorem dL_law_338 : decode cL_law 338 = .ok (.if_icmp .eq 773, 3) := by decide +kernel
theorem dL_law_341 : decode cL_law 341 = .ok (.iconst 0, 1) := by decide +kernel
theorem dL_law_342 : decode cL_law 342 = .ok (.ireturn, 1) := by decide +kernel
theorem dL_law_343 : decode cL_law 343 = .ok (.aload_n 1, 1) := by decide +kernel
theorem dL_law_344 : decode cL_law 344 = .ok (.aload_n 0, 1) := by decide +kernel
theorem dL_law_345 : decode cL_law 345 = .ok (.iload_n 3, 1) := by decide +kernel
theorem dL_law_346 : decode cL_law 346 = .ok (.iconst 1, 1) := by decide +kernel
theorem dL_law_347 : decode cL_law 347 = .ok (.iadd, 1) := by decide +kernel
theorem dL_law_348 : decode cL_law 348 = .ok (.iaload, 1) := by decide +kernel
theorem dL_law_349 : decode cL_law 349 = .ok (.aload_n 0, 1) := by decide +kernel
theorem dL_law_350 : decode cL_law 350 = .ok (.iload_n 3, 1) := by decide +kernel
theorem dL_law_351 : decode cL_law 351 = .ok (.iconst 2, 1) := by decide +kernel
theorem dL_law_352 : decode cL_law 352 = .ok (.iadd, 1) := by decide +kernel
theorem dL_law_353 : decode cL_law 353 = .ok (.iaload, 1) := by decide +kernel
theorem dL_law_354 : decode cL_law 354 = .ok (.invokevirtual 27, 3) := by decide +kernel
theorem dL_law_357 : decode cL_law 357 = .ok (.aload_n 2, 1) := by decide +kernel
theorem dL_law_358 : decode cL_law 358 = .ok (.aload_n 0, 1) := by decide +kernel
theorem dL_law_359 : decode cL_law 359 = .ok (.iload_n 3, 1) := by decide +kernel
theorem dL_law_360 : decode cL_law 360 = .ok (.iconst 1, 1) := by decide +kernel
theorem dL_law_361 : decode cL_law 361 = .ok (.iadd, 1) := by decide +kernel
theorem dL_law_362 : decode cL_law 362 = .ok (.iaload, 1) := by decide +kernel
theorem dL_law_363 : decode cL_law 363 = .ok (.aload_n 0, 1) := by decide +kernel
theorem dL_law_364 : decode cL_law 364 = .ok (.iload_n 3, 1) := by decide +kernel
theorem dL_law_365 : decode cL_law 365 = .ok (.iconst 2, 1) := by decide +kernel
theorem dL_law_366 : decode cL_law 366 = .ok (.iadd, 1) := by decide +kernel
theorem dL_law_367 : decode cL_law 367 = .ok (.iaload, 1) := by decide +kernel
theorem dL_law_368 : decode cL_law 368 = .ok (.invokevirtual 31, 3) := by decide +kernel
theorem dL_law_371 : decode cL_law 371 = .ok (.if_icmp .eq 740, 3) := by decide +kernel
theorem dL_law_374 : decode cL_law 374 = .ok (.iconst 0, 1) := by decide +kernel
theorem dL_law_375 : decode cL_law 375 = .ok (.ireturn, 1) := by decide +kernel
theorem dL_law_376 : decode cL_law 376 = .ok (.aload_n 1, 1) := by decide +kernel
theorem dL_law_377 : decode cL_law 377 = .ok (.aload_n 0, 1) := by decide +kernel
theorem dL_law_378 : decode cL_law 378 = .ok (.iload_n 3, 1) := by decide +kernel
theorem dL_law_379 : decode cL_law 379 = .ok (.iconst 1, 1) := by decide +kernel
end
section
theorem dL_law_380 : decode cL_law 380 = .ok (.iadd, 1) := by decide +kernel
theorem dL_law_381 : decode cL_law 381 = .ok (.iaload, 1) := by decide +kernel
theorem dL_law_382 : decode cL_law 382 = .ok (.aload_n 0, 1) := by decide +kernel
theorem dL_law_383 : decode cL_law 383 = .ok (.iload_n 3, 1) := by decide +kernel
theorem dL_law_384 : decode cL_law 384 = .ok (.iconst 2, 1) := by decide +kernel
theorem dL_law_385 : decode cL_law 385 = .ok (.iadd, 1) := by decide +kernel
theorem dL_law_386 : decode cL_law 386 = .ok (.iaload, 1) := by decide +kernel
theorem dL_law_387 : decode cL_law 387 = .ok (.aload_n 0, 1) := by decide +kernel
theorem dL_law_388 : decode cL_law 388 = .ok (.iload_n 3, 1) := by decide +kernel
theorem dL_law_389 : decode cL_law 389 = .ok (.iconst 3, 1) := by decide +kernel
theorem dL_law_390 : decode cL_law 390 = .ok (.iadd, 1) := by decide +kernel
theorem dL_law_391 : decode cL_law 391 = .ok (.iaload, 1) := by decide +kernel
theorem dL_law_392 : decode cL_law 392 = .ok (.invokevirtual 32, 3) := by decide +kernel
theorem dL_law_395 : decode cL_law 395 = .ok (.aload_n 2, 1) := by decide +kernel
theorem dL_law_396 : decode cL_law 396 = .ok (.aload_n 0, 1) := by decide +kernel
theorem dL_law_397 : decode cL_law 397 = .ok (.iload_n 3, 1) := by decide +kernel
theorem dL_law_398 : decode cL_law 398 = .ok (.iconst 1, 1) := by decide +kernel
theorem dL_law_399 : decode cL_law 399 = .ok (.iadd, 1) := by decide +kernel
theorem dL_law_400 : decode cL_law 400 = .ok (.iaload, 1) := by decide +kernel
theorem dL_law_401 : decode cL_law 401 = .ok (.aload_n 0, 1) := by decide +kernel
theorem dL_law_402 : decode cL_law 402 = .ok (.iload_n 3, 1) := by decide +kernel
theorem dL_law_403 : decode cL_law 403 = .ok (.iconst 2, 1) := by decide +kernel
theorem dL_law_404 : decode cL_law 404 = .ok (.iadd, 1) := by decide +kernel
theorem dL_law_405 : decode cL_law 405 = .ok (.iaload, 1) := by decide +kernel
theorem dL_law_406 : decode cL_law 406 = .ok (.aload_n 0, 1) := by decide +kernel
theorem dL_law_407 : decode cL_law 407 = .ok (.iload_n 3, 1) := by decide +kernel
theorem dL_law_408 : decode cL_law 408 = .ok (.iconst 3, 1) := by decide +kernel
theorem dL_law_409 : decode cL_law 409 = .ok (.iadd, 1) := by decide +kernel
theorem dL_law_410 : decode cL_law 410 = .ok (.iaload, 1) := by decide +kernel
theorem dL_law_411 : decode cL_law 411 = .ok (.invokevirtual 36, 3) := by decide +kernel
theorem dL_law_414 : decode cL_law 414 = .ok (.if_icmp .eq 697, 3) := by decide +kernel
theorem dL_law_417 : decode cL_law 417 = .ok (.iconst 0, 1) := by decide +kernel
theorem dL_law_418 : decode cL_law 418 = .ok (.ireturn, 1) := by decide +kernel
theorem dL_law_419 : decode cL_law 419 = .ok (.aload_n 1, 1) := by decide +kernel
theorem dL_law_420 : decode cL_law 420 = .ok (.aload_n 0, 1) := by decide +kernel
theorem dL_law_421 : decode cL_law 421 = .ok (.iload_n 3, 1) := by decide +kernel
theorem dL_law_422 : decode cL_law 422 = .ok (.iconst 1, 1) := by decide +kernel
theorem dL_law_423 : decode cL_law 423 = .ok (.iadd, 1) := by decide +kernel
theorem dL_law_424 : decode cL_law 424 = .ok (.iaload, 1) := by decide +kernel
theorem dL_law_425 : decode cL_law 425 = .ok (.aload_n 0, 1) := by decide +kernel
theorem dL_law_426 : decode cL_law 426 = .ok (.iload_n 3, 1) := by decide +kernel
theorem dL_law_427 : decode cL_law 427 = .ok (.iconst 2, 1) := by decide +kernel
theorem dL_law_428 : decode cL_law 428 = .ok (.iadd, 1) := by decide +kernel
theorem dL_law_429 : decode cL_law 429 = .ok (.iaload, 1) := by decide +kernel
theorem dL_law_430 : decode cL_law 430 = .ok (.aload_n 0, 1) := by decide +kernel
theorem dL_law_431 : decode cL_law 431 = .ok (.iload_n 3, 1) := by decide +kernel
theorem dL_law_432 : decode cL_law 432 = .ok (.iconst 3, 1) := by decide +kernel
theorem dL_law_433 : decode cL_law 433 = .ok (.iadd, 1) := by decide +kernel
theorem dL_law_434 : decode cL_law 434 = .ok (.iaload, 1) := by decide +kernel
theorem dL_law_435 : decode cL_law 435 = .ok (.invokevirtual 37, 3) := by decide +kernel
theorem dL_law_438 : decode cL_law 438 = .ok (.aload_n 2, 1) := by decide +kernel
theorem dL_law_439 : decode cL_law 439 = .ok (.aload_n 0, 1) := by decide +kernel
theorem dL_law_440 : decode cL_law 440 = .ok (.iload_n 3, 1) := by decide +kernel
theorem dL_law_441 : decode cL_law 441 = .ok (.iconst 1, 1) := by decide +kernel
theorem dL_law_442 : decode cL_law 442 = .ok (.iadd, 1) := by decide +kernel
theorem dL_law_443 : decode cL_law 443 = .ok (.iaload, 1) := by decide +kernel
theorem dL_law_444 : decode cL_law 444 = .ok (.aload_n 0, 1) := by decide +kernel
theorem dL_law_445 : decode cL_law 445 = .ok (.iload_n 3, 1) := by decide +kernel
theorem dL_law_446 : decode cL_law 446 = .ok (.iconst 2, 1) := by decide +kernel
theorem dL_law_447 : decode cL_law 447 = .ok (.iadd, 1) := by decide +kernel
theorem dL_law_448 : decode cL_law 448 = .ok (.iaload, 1) := by decide +kernel
theorem dL_law_449 : decode cL_law 449 = .ok (.aload_n 0, 1) := by decide +kernel
theorem dL_law_450 : decode cL_law 450 = .ok (.iload_n 3, 1) := by decide +kernel
theorem dL_law_451 : decode cL_law 451 = .ok (.iconst 3, 1) := by decide +kernel
theorem dL_law_452 : decode cL_law 452 = .ok (.iadd, 1) := by decide +kernel
theorem dL_law_453 : decode cL_law 453 = .ok (.iaload, 1) := by decide +kernel
theorem dL_law_454 : decode cL_law 454 = .ok (.invokevirtual 40, 3) := by decide +kernel
theorem dL_law_457 : decode cL_law 457 = .ok (.if_icmp .eq 654, 3) := by decide +kernel
theorem dL_law_460 : decode cL_law 460 = .ok (.iconst 0, 1) := by decide +kernel
theorem dL_law_461 : decode cL_law 461 = .ok (.ireturn, 1) := by decide +kernel
theorem dL_law_462 : decode cL_law 462 = .ok (.aload_n 1, 1) := by decide +kernel
theorem dL_law_463 : decode cL_law 463 = .ok (.aload_n 0, 1) := by decide +kernel
theorem dL_law_464 : decode cL_law 464 = .ok (.iload_n 3, 1) := by decide +kernel
theorem dL_law_465 : decode cL_law 465 = .ok (.iconst 1, 1) := by decide +kernel
theorem dL_law_466 : decode cL_law 466 = .ok (.iadd, 1) := by decide +kernel
theorem dL_law_467 : decode cL_law 467 = .ok (.iaload, 1) := by decide +kernel
theorem dL_law_468 : decode cL_law 468 = .ok (.aload_n 0, 1) := by decide +kernel
theorem dL_law_469 : decode cL_law 469 = .ok (.iload_n 3, 1) := by decide +kernel
theorem dL_law_470 : decode cL_law 470 = .ok (.iconst 2, 1) := by decide +kernel
theorem dL_law_471 : decode cL_law 471 = .ok (.iadd, 1) := by decide +kernel
theorem dL_law_472 : decode cL_law 472 = .ok (.iaload, 1) := by decide +kernel
theorem dL_law_473 : decode cL_law 473 = .ok (.invokevirtual 41, 3) := by decide +kernel
theorem dL_law_476 : decode cL_law 476 = .ok (.aload_n 2, 1) := by decide +kernel
theorem dL_law_477 : decode cL_law 477 = .ok (.aload_n 0, 1) := by decide +kernel
theorem dL_law_478 : decode cL_law 478 = .ok (.iload_n 3, 1) := by decide +kernel
theorem dL_law_479 : decode cL_law 479 = .ok (.iconst 1, 1) := by decide +kernel
theorem dL_law_480 : decode cL_law 480 = .ok (.iadd, 1) := by decide +kernel
theorem dL_law_481 : decode cL_law 481 = .ok (.iaload, 1) := by decide +kernel
theorem dL_law_482 : decode cL_law 482 = .ok (.aload_n 0, 1) := by decide +kernel
theorem dL_law_483 : decode cL_law 483 = .ok (.iload_n 3, 1) := by decide +kernel
theorem dL_law_484 : decode cL_law 484 = .ok (.iconst 2, 1) := by decide +kernel
theorem dL_law_485 : decode cL_law 485 = .ok (.iadd, 1) := by decide +kernel
theorem dL_law_486 : decode cL_law 486 = .ok (.iaload, 1) := by decide +kernel
theorem dL_law_487 : decode cL_law 487 = .ok (.invokevirtual 44, 3) := by decide +kernel
theorem dL_law_490 : decode cL_law 490 = .ok (.if_icmp .eq 621, 3) := by decide +kernel
theorem dL_law_493 : decode cL_law 493 = .ok (.iconst 0, 1) := by decide +kernel
theorem dL_law_494 : decode cL_law 494 = .ok (.ireturn, 1) := by decide +kernel
theorem dL_law_495 : decode cL_law 495 = .ok (.aload_n 1, 1) := by decide +kernel
theorem dL_law_496 : decode cL_law 496 = .ok (.aload_n 0, 1) := by decide +kernel
end
section
theorem dL_law_497 : decode cL_law 497 = .ok (.iload_n 3, 1) := by decide +kernel
theorem dL_law_498 : decode cL_law 498 = .ok (.iconst 1, 1) := by decide +kernel
theorem dL_law_499 : decode cL_law 499 = .ok (.iadd, 1) := by decide +kernel
theorem dL_law_500 : decode cL_law 500 = .ok (.iaload, 1) := by decide +kernel
theorem dL_law_501 : decode cL_law 501 = .ok (.aload_n 0, 1) := by decide +kernel
theorem dL_law_502 : decode cL_law 502 = .ok (.iload_n 3, 1) := by decide +kernel
theorem dL_law_503 : decode cL_law 503 = .ok (.iconst 2, 1) := by decide +kernel
theorem dL_law_504 : decode cL_law 504 = .ok (.iadd, 1) := by decide +kernel
theorem dL_law_505 : decode cL_law 505 = .ok (.iaload, 1) := by decide +kernel
theorem dL_law_506 : decode cL_law 506 = .ok (.aload_n 0, 1) := by decide +kernel
theorem dL_law_507 : decode cL_law 507 = .ok (.iload_n 3, 1) := by decide +kernel
theorem dL_law_508 : decode cL_law 508 = .ok (.iconst 3, 1) := by decide +kernel
theorem dL_law_509 : decode cL_law 509 = .ok (.iadd, 1) := by decide +kernel
theorem dL_law_510 : decode cL_law 510 = .ok (.iaload, 1) := by decide +kernel
theorem dL_law_511 : decode cL_law 511 = .ok (.ifCond .eq 7, 3) := by decide +kernel
theorem dL_law_514 : decode cL_law 514 = .ok (.iconst 1, 1) := by decide +kernel
theorem dL_law_515 : decode cL_law 515 = .ok (.goto 4, 3) := by decide +kernel
theorem dL_law_518 : decode cL_law 518 = .ok (.iconst 0, 1) := by decide +kernel
theorem dL_law_519 : decode cL_law 519 = .ok (.invokevirtual 45, 3) := by decide +kernel
theorem dL_law_522 : decode cL_law 522 = .ok (.aload_n 2, 1) := by decide +kernel
theorem dL_law_523 : decode cL_law 523 = .ok (.aload_n 0, 1) := by decide +kernel
theorem dL_law_524 : decode cL_law 524 = .ok (.iload_n 3, 1) := by decide +kernel
theorem dL_law_525 : decode cL_law 525 = .ok (.iconst 1, 1) := by decide +kernel
theorem dL_law_526 : decode cL_law 526 = .ok (.iadd, 1) := by decide +kernel
theorem dL_law_527 : decode cL_law 527 = .ok (.iaload, 1) := by decide +kernel
theorem dL_law_528 : decode cL_law 528 = .ok (.aload_n 0, 1) := by decide +kernel
theorem dL_law_529 : decode cL_law 529 = .ok (.iload_n 3, 1) := by decide +kernel
theorem dL_law_530 : decode cL_law 530 = .ok (.iconst 2, 1) := by decide +kernel
theorem dL_law_531 : decode cL_law 531 = .ok (.iadd, 1) := by decide +kernel
theorem dL_law_532 : decode cL_law 532 = .ok (.iaload, 1) := by decide +kernel
theorem dL_law_533 : decode cL_law 533 = .ok (.aload_n 0, 1) := by decide +kernel
theorem dL_law_534 : decode cL_law 534 = .ok (.iload_n 3, 1) := by decide +kernel
theorem dL_law_535 : decode cL_law 535 = .ok (.iconst 3, 1) := by decide +kernel
theorem dL_law_536 : decode cL_law 536 = .ok (.iadd, 1) := by decide +kernel
theorem dL_law_537 : decode cL_law 537 = .ok (.iaload, 1) := by decide +kernel
theorem dL_law_538 : decode cL_law 538 = .ok (.ifCond .eq 7, 3) := by decide +kernel
theorem dL_law_541 : decode cL_law 541 = .ok (.iconst 1, 1) := by decide +kernel
theorem dL_law_542 : decode cL_law 542 = .ok (.goto 4, 3) := by decide +kernel
theorem dL_law_545 : decode cL_law 545 = .ok (.iconst 0, 1) := by decide +kernel
theorem dL_law_546 : decode cL_law 546 = .ok (.invokevirtual 49, 3) := by decide +kernel
theorem dL_law_549 : decode cL_law 549 = .ok (.if_icmp .eq 562, 3) := by decide +kernel
theorem dL_law_552 : decode cL_law 552 = .ok (.iconst 0, 1) := by decide +kernel
theorem dL_law_553 : decode cL_law 553 = .ok (.ireturn, 1) := by decide +kernel
theorem dL_law_554 : decode cL_law 554 = .ok (.aload_n 1, 1) := by decide +kernel
theorem dL_law_555 : decode cL_law 555 = .ok (.aload_n 0, 1) := by decide +kernel
theorem dL_law_556 : decode cL_law 556 = .ok (.iload_n 3, 1) := by decide +kernel
theorem dL_law_557 : decode cL_law 557 = .ok (.iconst 1, 1) := by decide +kernel
theorem dL_law_558 : decode cL_law 558 = .ok (.iadd, 1) := by decide +kernel
theorem dL_law_559 : decode cL_law 559 = .ok (.iaload, 1) := by decide +kernel
theorem dL_law_560 : decode cL_law 560 = .ok (.aload_n 0, 1) := by decide +kernel
theorem dL_law_561 : decode cL_law 561 = .ok (.iload_n 3, 1) := by decide +kernel
theorem dL_law_562 : decode cL_law 562 = .ok (.iconst 2, 1) := by decide +kernel
theorem dL_law_563 : decode cL_law 563 = .ok (.iadd, 1) := by decide +kernel
theorem dL_law_564 : decode cL_law 564 = .ok (.iaload, 1) := by decide +kernel
theorem dL_law_565 : decode cL_law 565 = .ok (.invokevirtual 50, 3) := by decide +kernel
theorem dL_law_568 : decode cL_law 568 = .ok (.aload_n 2, 1) := by decide +kernel
theorem dL_law_569 : decode cL_law 569 = .ok (.aload_n 0, 1) := by decide +kernel
theorem dL_law_570 : decode cL_law 570 = .ok (.iload_n 3, 1) := by decide +kernel
theorem dL_law_571 : decode cL_law 571 = .ok (.iconst 1, 1) := by decide +kernel
theorem dL_law_572 : decode cL_law 572 = .ok (.iadd, 1) := by decide +kernel
theorem dL_law_573 : decode cL_law 573 = .ok (.iaload, 1) := by decide +kernel
theorem dL_law_574 : decode cL_law 574 = .ok (.aload_n 0, 1) := by decide +kernel
theorem dL_law_575 : decode cL_law 575 = .ok (.iload_n 3, 1) := by decide +kernel
theorem dL_law_576 : decode cL_law 576 = .ok (.iconst 2, 1) := by decide +kernel
theorem dL_law_577 : decode cL_law 577 = .ok (.iadd, 1) := by decide +kernel
theorem dL_law_578 : decode cL_law 578 = .ok (.iaload, 1) := by decide +kernel
theorem dL_law_579 : decode cL_law 579 = .ok (.invokevirtual 53, 3) := by decide +kernel
theorem dL_law_582 : decode cL_law 582 = .ok (.if_icmp .eq 529, 3) := by decide +kernel
theorem dL_law_585 : decode cL_law 585 = .ok (.iconst 0, 1) := by decide +kernel
theorem dL_law_586 : decode cL_law 586 = .ok (.ireturn, 1) := by decide +kernel
theorem dL_law_587 : decode cL_law 587 = .ok (.aload_n 1, 1) := by decide +kernel
theorem dL_law_588 : decode cL_law 588 = .ok (.aload_n 0, 1) := by decide +kernel
theorem dL_law_589 : decode cL_law 589 = .ok (.iload_n 3, 1) := by decide +kernel
theorem dL_law_590 : decode cL_law 590 = .ok (.iconst 1, 1) := by decide +kernel
theorem dL_law_591 : decode cL_law 591 = .ok (.iadd, 1) := by decide +kernel
theorem dL_law_592 : decode cL_law 592 = .ok (.iaload, 1) := by decide +kernel
theorem dL_law_593 : decode cL_law 593 = .ok (.aload_n 0, 1) := by decide +kernel
theorem dL_law_594 : decode cL_law 594 = .ok (.iload_n 3, 1) := by decide +kernel
theorem dL_law_595 : decode cL_law 595 = .ok (.iconst 2, 1) := by decide +kernel
theorem dL_law_596 : decode cL_law 596 = .ok (.iadd, 1) := by decide +kernel
theorem dL_law_597 : decode cL_law 597 = .ok (.iaload, 1) := by decide +kernel
theorem dL_law_598 : decode cL_law 598 = .ok (.aload_n 0, 1) := by decide +kernel
theorem dL_law_599 : decode cL_law 599 = .ok (.iload_n 3, 1) := by decide +kernel
theorem dL_law_600 : decode cL_law 600 = .ok (.iconst 3, 1) := by decide +kernel
theorem dL_law_601 : decode cL_law 601 = .ok (.iadd, 1) := by decide +kernel
theorem dL_law_602 : decode cL_law 602 = .ok (.iaload, 1) := by decide +kernel
theorem dL_law_603 : decode cL_law 603 = .ok (.invokevirtual 54, 3) := by decide +kernel
theorem dL_law_606 : decode cL_law 606 = .ok (.aload_n 2, 1) := by decide +kernel
theorem dL_law_607 : decode cL_law 607 = .ok (.aload_n 0, 1) := by decide +kernel
theorem dL_law_608 : decode cL_law 608 = .ok (.iload_n 3, 1) := by decide +kernel
theorem dL_law_609 : decode cL_law 609 = .ok (.iconst 1, 1) := by decide +kernel
theorem dL_law_610 : decode cL_law 610 = .ok (.iadd, 1) := by decide +kernel
theorem dL_law_611 : decode cL_law 611 = .ok (.iaload, 1) := by decide +kernel
theorem dL_law_612 : decode cL_law 612 = .ok (.aload_n 0, 1) := by decide +kernel
theorem dL_law_613 : decode cL_law 613 = .ok (.iload_n 3, 1) := by decide +kernel
theorem dL_law_614 : decode cL_law 614 = .ok (.iconst 2, 1) := by decide +kernel
theorem dL_law_615 : decode cL_law 615 = .ok (.iadd, 1) := by decide +kernel
theorem dL_law_616 : decode cL_law 616 = .ok (.iaload, 1) := by decide +kernel
theorem dL_law_617 : decode cL_law 617 = .ok (.aload_n 0, 1) := by decide +kernel
end
section
theorem dL_law_618 : decode cL_law 618 = .ok (.iload_n 3, 1) := by decide +kernel
theorem dL_law_619 : decode cL_law 619 = .ok (.iconst 3, 1) := by decide +kernel
theorem dL_law_620 : decode cL_law 620 = .ok (.iadd, 1) := by decide +kernel
theorem dL_law_621 : decode cL_law 621 = .ok (.iaload, 1) := by decide +kernel
theorem dL_law_622 : decode cL_law 622 = .ok (.invokevirtual 57, 3) := by decide +kernel
theorem dL_law_625 : decode cL_law 625 = .ok (.if_icmp .eq 486, 3) := by decide +kernel
theorem dL_law_628 : decode cL_law 628 = .ok (.iconst 0, 1) := by decide +kernel
theorem dL_law_629 : decode cL_law 629 = .ok (.ireturn, 1) := by decide +kernel
theorem dL_law_630 : decode cL_law 630 = .ok (.aload_n 1, 1) := by decide +kernel
theorem dL_law_631 : decode cL_law 631 = .ok (.aload_n 0, 1) := by decide +kernel
theorem dL_law_632 : decode cL_law 632 = .ok (.iload_n 3, 1) := by decide +kernel
theorem dL_law_633 : decode cL_law 633 = .ok (.iconst 1, 1) := by decide +kernel
theorem dL_law_634 : decode cL_law 634 = .ok (.iadd, 1) := by decide +kernel
theorem dL_law_635 : decode cL_law 635 = .ok (.iaload, 1) := by decide +kernel
theorem dL_law_636 : decode cL_law 636 = .ok (.aload_n 0, 1) := by decide +kernel
theorem dL_law_637 : decode cL_law 637 = .ok (.iload_n 3, 1) := by decide +kernel
theorem dL_law_638 : decode cL_law 638 = .ok (.iconst 2, 1) := by decide +kernel
theorem dL_law_639 : decode cL_law 639 = .ok (.iadd, 1) := by decide +kernel
theorem dL_law_640 : decode cL_law 640 = .ok (.iaload, 1) := by decide +kernel
theorem dL_law_641 : decode cL_law 641 = .ok (.aload_n 0, 1) := by decide +kernel
theorem dL_law_642 : decode cL_law 642 = .ok (.iload_n 3, 1) := by decide +kernel
theorem dL_law_643 : decode cL_law 643 = .ok (.iconst 3, 1) := by decide +kernel
theorem dL_law_644 : decode cL_law 644 = .ok (.iadd, 1) := by decide +kernel
theorem dL_law_645 : decode cL_law 645 = .ok (.iaload, 1) := by decide +kernel
theorem dL_law_646 : decode cL_law 646 = .ok (.invokevirtual 58, 3) := by decide +kernel
theorem dL_law_649 : decode cL_law 649 = .ok (.aload_n 2, 1) := by decide +kernel
theorem dL_law_650 : decode cL_law 650 = .ok (.aload_n 0, 1) := by decide +kernel
theorem dL_law_651 : decode cL_law 651 = .ok (.iload_n 3, 1) := by decide +kernel
theorem dL_law_652 : decode cL_law 652 = .ok (.iconst 1, 1) := by decide +kernel
theorem dL_law_653 : decode cL_law 653 = .ok (.iadd, 1) := by decide +kernel
theorem dL_law_654 : decode cL_law 654 = .ok (.iaload, 1) := by decide +kernel
theorem dL_law_655 : decode cL_law 655 = .ok (.aload_n 0, 1) := by decide +kernel
theorem dL_law_656 : decode cL_law 656 = .ok (.iload_n 3, 1) := by decide +kernel
theorem dL_law_657 : decode cL_law 657 = .ok (.iconst 2, 1) := by decide +kernel
theorem dL_law_658 : decode cL_law 658 = .ok (.iadd, 1) := by decide +kernel
theorem dL_law_659 : decode cL_law 659 = .ok (.iaload, 1) := by decide +kernel
theorem dL_law_660 : decode cL_law 660 = .ok (.aload_n 0, 1) := by decide +kernel
theorem dL_law_661 : decode cL_law 661 = .ok (.iload_n 3, 1) := by decide +kernel
theorem dL_law_662 : decode cL_law 662 = .ok (.iconst 3, 1) := by decide +kernel
theorem dL_law_663 : decode cL_law 663 = .ok (.iadd, 1) := by decide +kernel
theorem dL_law_664 : decode cL_law 664 = .ok (.iaload, 1) := by decide +kernel
theorem dL_law_665 : decode cL_law 665 = .ok (.invokevirtual 61, 3) := by decide +kernel
theorem dL_law_668 : decode cL_law 668 = .ok (.if_icmp .eq 443, 3) := by decide +kernel
theorem dL_law_671 : decode cL_law 671 = .ok (.iconst 0, 1) := by decide +kernel
theorem dL_law_672 : decode cL_law 672 = .ok (.ireturn, 1) := by decide +kernel
theorem dL_law_673 : decode cL_law 673 = .ok (.aload_n 1, 1) := by decide +kernel
theorem dL_law_674 : decode cL_law 674 = .ok (.aload_n 0, 1) := by decide +kernel
theorem dL_law_675 : decode cL_law 675 = .ok (.iload_n 3, 1) := by decide +kernel
theorem dL_law_676 : decode cL_law 676 = .ok (.iconst 1, 1) := by decide +kernel
theorem dL_law_677 : decode cL_law 677 = .ok (.iadd, 1) := by decide +kernel
theorem dL_law_678 : decode cL_law 678 = .ok (.iaload, 1) := by decide +kernel
theorem dL_law_679 : decode cL_law 679 = .ok (.invokevirtual 62, 3) := by decide +kernel
theorem dL_law_682 : decode cL_law 682 = .ok (.aload_n 2, 1) := by decide +kernel
theorem dL_law_683 : decode cL_law 683 = .ok (.aload_n 0, 1) := by decide +kernel
theorem dL_law_684 : decode cL_law 684 = .ok (.iload_n 3, 1) := by decide +kernel
theorem dL_law_685 : decode cL_law 685 = .ok (.iconst 1, 1) := by decide +kernel
theorem dL_law_686 : decode cL_law 686 = .ok (.iadd, 1) := by decide +kernel
theorem dL_law_687 : decode cL_law 687 = .ok (.iaload, 1) := by decide +kernel
theorem dL_law_688 : decode cL_law 688 = .ok (.invokevirtual 66, 3) := by decide +kernel
theorem dL_law_691 : decode cL_law 691 = .ok (.if_icmp .eq 420, 3) := by decide +kernel
theorem dL_law_694 : decode cL_law 694 = .ok (.iconst 0, 1) := by decide +kernel
theorem dL_law_695 : decode cL_law 695 = .ok (.ireturn, 1) := by decide +kernel
theorem dL_law_696 : decode cL_law 696 = .ok (.aload_n 1, 1) := by decide +kernel
theorem dL_law_697 : decode cL_law 697 = .ok (.aload_n 0, 1) := by decide +kernel
theorem dL_law_698 : decode cL_law 698 = .ok (.iload_n 3, 1) := by decide +kernel
theorem dL_law_699 : decode cL_law 699 = .ok (.iconst 1, 1) := by decide +kernel
theorem dL_law_700 : decode cL_law 700 = .ok (.iadd, 1) := by decide +kernel
theorem dL_law_701 : decode cL_law 701 = .ok (.iaload, 1) := by decide +kernel
theorem dL_law_702 : decode cL_law 702 = .ok (.aload_n 0, 1) := by decide +kernel
theorem dL_law_703 : decode cL_law 703 = .ok (.iload_n 3, 1) := by decide +kernel
theorem dL_law_704 : decode cL_law 704 = .ok (.iconst 2, 1) := by decide +kernel
theorem dL_law_705 : decode cL_law 705 = .ok (.iadd, 1) := by decide +kernel
theorem dL_law_706 : decode cL_law 706 = .ok (.iaload, 1) := by decide +kernel
theorem dL_law_707 : decode cL_law 707 = .ok (.invokevirtual 67, 3) := by decide +kernel
theorem dL_law_710 : decode cL_law 710 = .ok (.aload_n 2, 1) := by decide +kernel
theorem dL_law_711 : decode cL_law 711 = .ok (.aload_n 0, 1) := by decide +kernel
theorem dL_law_712 : decode cL_law 712 = .ok (.iload_n 3, 1) := by decide +kernel
theorem dL_law_713 : decode cL_law 713 = .ok (.iconst 1, 1) := by decide +kernel
theorem dL_law_714 : decode cL_law 714 = .ok (.iadd, 1) := by decide +kernel
theorem dL_law_715 : decode cL_law 715 = .ok (.iaload, 1) := by decide +kernel
theorem dL_law_716 : decode cL_law 716 = .ok (.aload_n 0, 1) := by decide +kernel
theorem dL_law_717 : decode cL_law 717 = .ok (.iload_n 3, 1) := by decide +kernel
theorem dL_law_718 : decode cL_law 718 = .ok (.iconst 2, 1) := by decide +kernel
theorem dL_law_719 : decode cL_law 719 = .ok (.iadd, 1) := by decide +kernel
theorem dL_law_720 : decode cL_law 720 = .ok (.iaload, 1) := by decide +kernel
theorem dL_law_721 : decode cL_law 721 = .ok (.invokevirtual 70, 3) := by decide +kernel
theorem dL_law_724 : decode cL_law 724 = .ok (.if_icmp .eq 387, 3) := by decide +kernel
theorem dL_law_727 : decode cL_law 727 = .ok (.iconst 0, 1) := by decide +kernel
theorem dL_law_728 : decode cL_law 728 = .ok (.ireturn, 1) := by decide +kernel
theorem dL_law_729 : decode cL_law 729 = .ok (.aload_n 1, 1) := by decide +kernel
theorem dL_law_730 : decode cL_law 730 = .ok (.aload_n 0, 1) := by decide +kernel
theorem dL_law_731 : decode cL_law 731 = .ok (.iload_n 3, 1) := by decide +kernel
theorem dL_law_732 : decode cL_law 732 = .ok (.iconst 1, 1) := by decide +kernel
theorem dL_law_733 : decode cL_law 733 = .ok (.iadd, 1) := by decide +kernel
theorem dL_law_734 : decode cL_law 734 = .ok (.iaload, 1) := by decide +kernel
theorem dL_law_735 : decode cL_law 735 = .ok (.invokevirtual 71, 3) := by decide +kernel
theorem dL_law_738 : decode cL_law 738 = .ok (.aload_n 2, 1) := by decide +kernel
theorem dL_law_739 : decode cL_law 739 = .ok (.aload_n 0, 1) := by decide +kernel
theorem dL_law_740 : decode cL_law 740 = .ok (.iload_n 3, 1) := by decide +kernel
end
section
theorem dL_law_741 : decode cL_law 741 = .ok (.iconst 1, 1) := by decide +kernel
theorem dL_law_742 : decode cL_law 742 = .ok (.iadd, 1) := by decide +kernel
theorem dL_law_743 : decode cL_law 743 = .ok (.iaload, 1) := by decide +kernel
theorem dL_law_744 : decode cL_law 744 = .ok (.invokevirtual 74, 3) := by decide +kernel
theorem dL_law_747 : decode cL_law 747 = .ok (.if_icmp .eq 364, 3) := by decide +kernel
theorem dL_law_750 : decode cL_law 750 = .ok (.iconst 0, 1) := by decide +kernel
theorem dL_law_751 : decode cL_law 751 = .ok (.ireturn, 1) := by decide +kernel
theorem dL_law_752 : decode cL_law 752 = .ok (.aload_n 1, 1) := by decide +kernel
theorem dL_law_753 : decode cL_law 753 = .ok (.aload_n 0, 1) := by decide +kernel
theorem dL_law_754 : decode cL_law 754 = .ok (.iload_n 3, 1) := by decide +kernel
theorem dL_law_755 : decode cL_law 755 = .ok (.iconst 1, 1) := by decide +kernel
theorem dL_law_756 : decode cL_law 756 = .ok (.iadd, 1) := by decide +kernel
theorem dL_law_757 : decode cL_law 757 = .ok (.iaload, 1) := by decide +kernel
theorem dL_law_758 : decode cL_law 758 = .ok (.aload_n 0, 1) := by decide +kernel
theorem dL_law_759 : decode cL_law 759 = .ok (.iload_n 3, 1) := by decide +kernel
theorem dL_law_760 : decode cL_law 760 = .ok (.iconst 2, 1) := by decide +kernel
theorem dL_law_761 : decode cL_law 761 = .ok (.iadd, 1) := by decide +kernel
theorem dL_law_762 : decode cL_law 762 = .ok (.iaload, 1) := by decide +kernel
theorem dL_law_763 : decode cL_law 763 = .ok (.invokevirtual 75, 3) := by decide +kernel
theorem dL_law_766 : decode cL_law 766 = .ok (.aload_n 2, 1) := by decide +kernel
theorem dL_law_767 : decode cL_law 767 = .ok (.aload_n 0, 1) := by decide +kernel
theorem dL_law_768 : decode cL_law 768 = .ok (.iload_n 3, 1) := by decide +kernel
theorem dL_law_769 : decode cL_law 769 = .ok (.iconst 1, 1) := by decide +kernel
theorem dL_law_770 : decode cL_law 770 = .ok (.iadd, 1) := by decide +kernel
theorem dL_law_771 : decode cL_law 771 = .ok (.iaload, 1) := by decide +kernel
theorem dL_law_772 : decode cL_law 772 = .ok (.aload_n 0, 1) := by decide +kernel
theorem dL_law_773 : decode cL_law 773 = .ok (.iload_n 3, 1) := by decide +kernel
theorem dL_law_774 : decode cL_law 774 = .ok (.iconst 2, 1) := by decide +kernel
theorem dL_law_775 : decode cL_law 775 = .ok (.iadd, 1) := by decide +kernel
theorem dL_law_776 : decode cL_law 776 = .ok (.iaload, 1) := by decide +kernel
theorem dL_law_777 : decode cL_law 777 = .ok (.invokevirtual 78, 3) := by decide +kernel
theorem dL_law_780 : decode cL_law 780 = .ok (.if_icmp .eq 331, 3) := by decide +kernel
theorem dL_law_783 : decode cL_law 783 = .ok (.iconst 0, 1) := by decide +kernel
theorem dL_law_784 : decode cL_law 784 = .ok (.ireturn, 1) := by decide +kernel
theorem dL_law_785 : decode cL_law 785 = .ok (.aload_n 1, 1) := by decide +kernel
theorem dL_law_786 : decode cL_law 786 = .ok (.aload_n 0, 1) := by decide +kernel
theorem dL_law_787 : decode cL_law 787 = .ok (.iload_n 3, 1) := by decide +kernel
theorem dL_law_788 : decode cL_law 788 = .ok (.iconst 1, 1) := by decide +kernel
theorem dL_law_789 : decode cL_law 789 = .ok (.iadd, 1) := by decide +kernel
theorem dL_law_790 : decode cL_law 790 = .ok (.iaload, 1) := by decide +kernel
theorem dL_law_791 : decode cL_law 791 = .ok (.invokevirtual 79, 3) := by decide +kernel
theorem dL_law_794 : decode cL_law 794 = .ok (.aload_n 2, 1) := by decide +kernel
theorem dL_law_795 : decode cL_law 795 = .ok (.aload_n 0, 1) := by decide +kernel
theorem dL_law_796 : decode cL_law 796 = .ok (.iload_n 3, 1) := by decide +kernel
theorem dL_law_797 : decode cL_law 797 = .ok (.iconst 1, 1) := by decide +kernel
theorem dL_law_798 : decode cL_law 798 = .ok (.iadd, 1) := by decide +kernel
theorem dL_law_799 : decode cL_law 799 = .ok (.iaload, 1) := by decide +kernel
theorem dL_law_800 : decode cL_law 800 = .ok (.invokevirtual 82, 3) := by decide +kernel
theorem dL_law_803 : decode cL_law 803 = .ok (.if_icmp .eq 308, 3) := by decide +kernel
theorem dL_law_806 : decode cL_law 806 = .ok (.iconst 0, 1) := by decide +kernel
theorem dL_law_807 : decode cL_law 807 = .ok (.ireturn, 1) := by decide +kernel
theorem dL_law_808 : decode cL_law 808 = .ok (.aload_n 1, 1) := by decide +kernel
theorem dL_law_809 : decode cL_law 809 = .ok (.aload_n 0, 1) := by decide +kernel
theorem dL_law_810 : decode cL_law 810 = .ok (.iload_n 3, 1) := by decide +kernel
theorem dL_law_811 : decode cL_law 811 = .ok (.iconst 1, 1) := by decide +kernel
theorem dL_law_812 : decode cL_law 812 = .ok (.iadd, 1) := by decide +kernel
theorem dL_law_813 : decode cL_law 813 = .ok (.iaload, 1) := by decide +kernel
theorem dL_law_814 : decode cL_law 814 = .ok (.invokevirtual 83, 3) := by decide +kernel
theorem dL_law_817 : decode cL_law 817 = .ok (.aload_n 2, 1) := by decide +kernel
theorem dL_law_818 : decode cL_law 818 = .ok (.aload_n 0, 1) := by decide +kernel
theorem dL_law_819 : decode cL_law 819 = .ok (.iload_n 3, 1) := by decide +kernel
theorem dL_law_820 : decode cL_law 820 = .ok (.iconst 1, 1) := by decide +kernel
theorem dL_law_821 : decode cL_law 821 = .ok (.iadd, 1) := by decide +kernel
theorem dL_law_822 : decode cL_law 822 = .ok (.iaload, 1) := by decide +kernel
theorem dL_law_823 : decode cL_law 823 = .ok (.invokevirtual 86, 3) := by decide +kernel
theorem dL_law_826 : decode cL_law 826 = .ok (.if_icmp .eq 285, 3) := by decide +kernel
theorem dL_law_829 : decode cL_law 829 = .ok (.iconst 0, 1) := by decide +kernel
theorem dL_law_830 : decode cL_law 830 = .ok (.ireturn, 1) := by decide +kernel
theorem dL_law_831 : decode cL_law 831 = .ok (.aload_n 1, 1) := by decide +kernel
theorem dL_law_832 : decode cL_law 832 = .ok (.aload_n 0, 1) := by decide +kernel
theorem dL_law_833 : decode cL_law 833 = .ok (.iload_n 3, 1) := by decide +kernel
theorem dL_law_834 : decode cL_law 834 = .ok (.iconst 1, 1) := by decide +kernel
theorem dL_law_835 : decode cL_law 835 = .ok (.iadd, 1) := by decide +kernel
theorem dL_law_836 : decode cL_law 836 = .ok (.iaload, 1) := by decide +kernel
theorem dL_law_837 : decode cL_law 837 = .ok (.invokevirtual 87, 3) := by decide +kernel
theorem dL_law_840 : decode cL_law 840 = .ok (.aload_n 2, 1) := by decide +kernel
theorem dL_law_841 : decode cL_law 841 = .ok (.aload_n 0, 1) := by decide +kernel
theorem dL_law_842 : decode cL_law 842 = .ok (.iload_n 3, 1) := by decide +kernel
theorem dL_law_843 : decode cL_law 843 = .ok (.iconst 1, 1) := by decide +kernel
theorem dL_law_844 : decode cL_law 844 = .ok (.iadd, 1) := by decide +kernel
theorem dL_law_845 : decode cL_law 845 = .ok (.iaload, 1) := by decide +kernel
theorem dL_law_846 : decode cL_law 846 = .ok (.invokevirtual 90, 3) := by decide +kernel
theorem dL_law_849 : decode cL_law 849 = .ok (.if_icmp .eq 262, 3) := by decide +kernel
theorem dL_law_852 : decode cL_law 852 = .ok (.iconst 0, 1) := by decide +kernel
theorem dL_law_853 : decode cL_law 853 = .ok (.ireturn, 1) := by decide +kernel
theorem dL_law_854 : decode cL_law 854 = .ok (.aload_n 1, 1) := by decide +kernel
theorem dL_law_855 : decode cL_law 855 = .ok (.aload_n 0, 1) := by decide +kernel
theorem dL_law_856 : decode cL_law 856 = .ok (.iload_n 3, 1) := by decide +kernel
theorem dL_law_857 : decode cL_law 857 = .ok (.iconst 1, 1) := by decide +kernel
theorem dL_law_858 : decode cL_law 858 = .ok (.iadd, 1) := by decide +kernel
theorem dL_law_859 : decode cL_law 859 = .ok (.iaload, 1) := by decide +kernel
theorem dL_law_860 : decode cL_law 860 = .ok (.aload_n 0, 1) := by decide +kernel
theorem dL_law_861 : decode cL_law 861 = .ok (.iload_n 3, 1) := by decide +kernel
theorem dL_law_862 : decode cL_law 862 = .ok (.iconst 2, 1) := by decide +kernel
theorem dL_law_863 : decode cL_law 863 = .ok (.iadd, 1) := by decide +kernel
theorem dL_law_864 : decode cL_law 864 = .ok (.iaload, 1) := by decide +kernel
theorem dL_law_865 : decode cL_law 865 = .ok (.aload_n 0, 1) := by decide +kernel
theorem dL_law_866 : decode cL_law 866 = .ok (.iload_n 3, 1) := by decide +kernel
theorem dL_law_867 : decode cL_law 867 = .ok (.iconst 3, 1) := by decide +kernel
end
section
theorem dL_law_868 : decode cL_law 868 = .ok (.iadd, 1) := by decide +kernel
theorem dL_law_869 : decode cL_law 869 = .ok (.iaload, 1) := by decide +kernel
theorem dL_law_870 : decode cL_law 870 = .ok (.invokevirtual 91, 3) := by decide +kernel
theorem dL_law_873 : decode cL_law 873 = .ok (.aload_n 2, 1) := by decide +kernel
theorem dL_law_874 : decode cL_law 874 = .ok (.aload_n 0, 1) := by decide +kernel
theorem dL_law_875 : decode cL_law 875 = .ok (.iload_n 3, 1) := by decide +kernel
theorem dL_law_876 : decode cL_law 876 = .ok (.iconst 1, 1) := by decide +kernel
theorem dL_law_877 : decode cL_law 877 = .ok (.iadd, 1) := by decide +kernel
theorem dL_law_878 : decode cL_law 878 = .ok (.iaload, 1) := by decide +kernel
theorem dL_law_879 : decode cL_law 879 = .ok (.aload_n 0, 1) := by decide +kernel
theorem dL_law_880 : decode cL_law 880 = .ok (.iload_n 3, 1) := by decide +kernel
theorem dL_law_881 : decode cL_law 881 = .ok (.iconst 2, 1) := by decide +kernel
theorem dL_law_882 : decode cL_law 882 = .ok (.iadd, 1) := by decide +kernel
theorem dL_law_883 : decode cL_law 883 = .ok (.iaload, 1) := by decide +kernel
theorem dL_law_884 : decode cL_law 884 = .ok (.aload_n 0, 1) := by decide +kernel
theorem dL_law_885 : decode cL_law 885 = .ok (.iload_n 3, 1) := by decide +kernel
theorem dL_law_886 : decode cL_law 886 = .ok (.iconst 3, 1) := by decide +kernel
theorem dL_law_887 : decode cL_law 887 = .ok (.iadd, 1) := by decide +kernel
theorem dL_law_888 : decode cL_law 888 = .ok (.iaload, 1) := by decide +kernel
theorem dL_law_889 : decode cL_law 889 = .ok (.invokevirtual 94, 3) := by decide +kernel
theorem dL_law_892 : decode cL_law 892 = .ok (.if_icmp .eq 219, 3) := by decide +kernel
theorem dL_law_895 : decode cL_law 895 = .ok (.iconst 0, 1) := by decide +kernel
theorem dL_law_896 : decode cL_law 896 = .ok (.ireturn, 1) := by decide +kernel
theorem dL_law_897 : decode cL_law 897 = .ok (.aload_n 1, 1) := by decide +kernel
theorem dL_law_898 : decode cL_law 898 = .ok (.aload_n 0, 1) := by decide +kernel
theorem dL_law_899 : decode cL_law 899 = .ok (.iload_n 3, 1) := by decide +kernel
theorem dL_law_900 : decode cL_law 900 = .ok (.iconst 1, 1) := by decide +kernel
theorem dL_law_901 : decode cL_law 901 = .ok (.iadd, 1) := by decide +kernel
theorem dL_law_902 : decode cL_law 902 = .ok (.iaload, 1) := by decide +kernel
theorem dL_law_903 : decode cL_law 903 = .ok (.invokevirtual 95, 3) := by decide +kernel
theorem dL_law_906 : decode cL_law 906 = .ok (.aload_n 2, 1) := by decide +kernel
theorem dL_law_907 : decode cL_law 907 = .ok (.aload_n 0, 1) := by decide +kernel
theorem dL_law_908 : decode cL_law 908 = .ok (.iload_n 3, 1) := by decide +kernel
theorem dL_law_909 : decode cL_law 909 = .ok (.iconst 1, 1) := by decide +kernel
theorem dL_law_910 : decode cL_law 910 = .ok (.iadd, 1) := by decide +kernel
theorem dL_law_911 : decode cL_law 911 = .ok (.iaload, 1) := by decide +kernel
theorem dL_law_912 : decode cL_law 912 = .ok (.invokevirtual 98, 3) := by decide +kernel
theorem dL_law_915 : decode cL_law 915 = .ok (.if_icmp .eq 196, 3) := by decide +kernel
theorem dL_law_918 : decode cL_law 918 = .ok (.iconst 0, 1) := by decide +kernel
theorem dL_law_919 : decode cL_law 919 = .ok (.ireturn, 1) := by decide +kernel
theorem dL_law_920 : decode cL_law 920 = .ok (.aload_n 1, 1) := by decide +kernel
theorem dL_law_921 : decode cL_law 921 = .ok (.aload_n 0, 1) := by decide +kernel
theorem dL_law_922 : decode cL_law 922 = .ok (.iload_n 3, 1) := by decide +kernel
theorem dL_law_923 : decode cL_law 923 = .ok (.iconst 1, 1) := by decide +kernel
theorem dL_law_924 : decode cL_law 924 = .ok (.iadd, 1) := by decide +kernel
theorem dL_law_925 : decode cL_law 925 = .ok (.iaload, 1) := by decide +kernel
theorem dL_law_926 : decode cL_law 926 = .ok (.invokevirtual 99, 3) := by decide +kernel
theorem dL_law_929 : decode cL_law 929 = .ok (.aload_n 2, 1) := by decide +kernel
theorem dL_law_930 : decode cL_law 930 = .ok (.aload_n 0, 1) := by decide +kernel
theorem dL_law_931 : decode cL_law 931 = .ok (.iload_n 3, 1) := by decide +kernel
theorem dL_law_932 : decode cL_law 932 = .ok (.iconst 1, 1) := by decide +kernel
theorem dL_law_933 : decode cL_law 933 = .ok (.iadd, 1) := by decide +kernel
theorem dL_law_934 : decode cL_law 934 = .ok (.iaload, 1) := by decide +kernel
theorem dL_law_935 : decode cL_law 935 = .ok (.invokevirtual 102, 3) := by decide +kernel
theorem dL_law_938 : decode cL_law 938 = .ok (.if_icmp .eq 173, 3) := by decide +kernel
theorem dL_law_941 : decode cL_law 941 = .ok (.iconst 0, 1) := by decide +kernel
theorem dL_law_942 : decode cL_law 942 = .ok (.ireturn, 1) := by decide +kernel
theorem dL_law_943 : decode cL_law 943 = .ok (.aload_n 1, 1) := by decide +kernel
theorem dL_law_944 : decode cL_law 944 = .ok (.aload_n 0, 1) := by decide +kernel
theorem dL_law_945 : decode cL_law 945 = .ok (.iload_n 3, 1) := by decide +kernel
theorem dL_law_946 : decode cL_law 946 = .ok (.iconst 1, 1) := by decide +kernel
theorem dL_law_947 : decode cL_law 947 = .ok (.iadd, 1) := by decide +kernel
theorem dL_law_948 : decode cL_law 948 = .ok (.iaload, 1) := by decide +kernel
theorem dL_law_949 : decode cL_law 949 = .ok (.aload_n 0, 1) := by decide +kernel
theorem dL_law_950 : decode cL_law 950 = .ok (.iload_n 3, 1) := by decide +kernel
theorem dL_law_951 : decode cL_law 951 = .ok (.iconst 2, 1) := by decide +kernel
theorem dL_law_952 : decode cL_law 952 = .ok (.iadd, 1) := by decide +kernel
theorem dL_law_953 : decode cL_law 953 = .ok (.iaload, 1) := by decide +kernel
theorem dL_law_954 : decode cL_law 954 = .ok (.invokevirtual 103, 3) := by decide +kernel
theorem dL_law_957 : decode cL_law 957 = .ok (.aload_n 2, 1) := by decide +kernel
theorem dL_law_958 : decode cL_law 958 = .ok (.aload_n 0, 1) := by decide +kernel
theorem dL_law_959 : decode cL_law 959 = .ok (.iload_n 3, 1) := by decide +kernel
theorem dL_law_960 : decode cL_law 960 = .ok (.iconst 1, 1) := by decide +kernel
theorem dL_law_961 : decode cL_law 961 = .ok (.iadd, 1) := by decide +kernel
theorem dL_law_962 : decode cL_law 962 = .ok (.iaload, 1) := by decide +kernel
theorem dL_law_963 : decode cL_law 963 = .ok (.aload_n 0, 1) := by decide +kernel
theorem dL_law_964 : decode cL_law 964 = .ok (.iload_n 3, 1) := by decide +kernel
theorem dL_law_965 : decode cL_law 965 = .ok (.iconst 2, 1) := by decide +kernel
theorem dL_law_966 : decode cL_law 966 = .ok (.iadd, 1) := by decide +kernel
theorem dL_law_967 : decode cL_law 967 = .ok (.iaload, 1) := by decide +kernel
theorem dL_law_968 : decode cL_law 968 = .ok (.invokevirtual 106, 3) := by decide +kernel
theorem dL_law_971 : decode cL_law 971 = .ok (.if_icmp .eq 140, 3) := by decide +kernel
theorem dL_law_974 : decode cL_law 974 = .ok (.iconst 0, 1) := by decide +kernel
theorem dL_law_975 : decode cL_law 975 = .ok (.ireturn, 1) := by decide +kernel
theorem dL_law_976 : decode cL_law 976 = .ok (.aload_n 1, 1) := by decide +kernel
theorem dL_law_977 : decode cL_law 977 = .ok (.aload_n 0, 1) := by decide +kernel
theorem dL_law_978 : decode cL_law 978 = .ok (.iload_n 3, 1) := by decide +kernel
theorem dL_law_979 : decode cL_law 979 = .ok (.iconst 1, 1) := by decide +kernel
theorem dL_law_980 : decode cL_law 980 = .ok (.iadd, 1) := by decide +kernel
theorem dL_law_981 : decode cL_law 981 = .ok (.iaload, 1) := by decide +kernel
theorem dL_law_982 : decode cL_law 982 = .ok (.aload_n 0, 1) := by decide +kernel
theorem dL_law_983 : decode cL_law 983 = .ok (.iload_n 3, 1) := by decide +kernel
theorem dL_law_984 : decode cL_law 984 = .ok (.iconst 2, 1) := by decide +kernel
theorem dL_law_985 : decode cL_law 985 = .ok (.iadd, 1) := by decide +kernel
theorem dL_law_986 : decode cL_law 986 = .ok (.iaload, 1) := by decide +kernel
theorem dL_law_987 : decode cL_law 987 = .ok (.invokevirtual 107, 3) := by decide +kernel
theorem dL_law_990 : decode cL_law 990 = .ok (.aload_n 2, 1) := by decide +kernel
theorem dL_law_991 : decode cL_law 991 = .ok (.aload_n 0, 1) := by decide +kernel
theorem dL_law_992 : decode cL_law 992 = .ok (.iload_n 3, 1) := by decide +kernel
end
section
theorem dL_law_993 : decode cL_law 993 = .ok (.iconst 1, 1) := by decide +kernel
theorem dL_law_994 : decode cL_law 994 = .ok (.iadd, 1) := by decide +kernel
theorem dL_law_995 : decode cL_law 995 = .ok (.iaload, 1) := by decide +kernel
theorem dL_law_996 : decode cL_law 996 = .ok (.aload_n 0, 1) := by decide +kernel
theorem dL_law_997 : decode cL_law 997 = .ok (.iload_n 3, 1) := by decide +kernel
theorem dL_law_998 : decode cL_law 998 = .ok (.iconst 2, 1) := by decide +kernel
theorem dL_law_999 : decode cL_law 999 = .ok (.iadd, 1) := by decide +kernel
theorem dL_law_1000 : decode cL_law 1000 = .ok (.iaload, 1) := by decide +kernel
theorem dL_law_1001 : decode cL_law 1001 = .ok (.invokevirtual 110, 3) := by decide +kernel
theorem dL_law_1004 : decode cL_law 1004 = .ok (.if_icmp .eq 107, 3) := by decide +kernel
theorem dL_law_1007 : decode cL_law 1007 = .ok (.iconst 0, 1) := by decide +kernel
theorem dL_law_1008 : decode cL_law 1008 = .ok (.ireturn, 1) := by decide +kernel
theorem dL_law_1009 : decode cL_law 1009 = .ok (.aload_n 1, 1) := by decide +kernel
theorem dL_law_1010 : decode cL_law 1010 = .ok (.aload_n 0, 1) := by decide +kernel
theorem dL_law_1011 : decode cL_law 1011 = .ok (.iload_n 3, 1) := by decide +kernel
theorem dL_law_1012 : decode cL_law 1012 = .ok (.iconst 1, 1) := by decide +kernel
theorem dL_law_1013 : decode cL_law 1013 = .ok (.iadd, 1) := by decide +kernel
theorem dL_law_1014 : decode cL_law 1014 = .ok (.iaload, 1) := by decide +kernel
theorem dL_law_1015 : decode cL_law 1015 = .ok (.aload_n 0, 1) := by decide +kernel
theorem dL_law_1016 : decode cL_law 1016 = .ok (.iload_n 3, 1) := by decide +kernel
theorem dL_law_1017 : decode cL_law 1017 = .ok (.iconst 2, 1) := by decide +kernel
theorem dL_law_1018 : decode cL_law 1018 = .ok (.iadd, 1) := by decide +kernel
theorem dL_law_1019 : decode cL_law 1019 = .ok (.iaload, 1) := by decide +kernel
theorem dL_law_1020 : decode cL_law 1020 = .ok (.invokevirtual 111, 3) := by decide +kernel
theorem dL_law_1023 : decode cL_law 1023 = .ok (.aload_n 2, 1) := by decide +kernel
theorem dL_law_1024 : decode cL_law 1024 = .ok (.aload_n 0, 1) := by decide +kernel
theorem dL_law_1025 : decode cL_law 1025 = .ok (.iload_n 3, 1) := by decide +kernel
theorem dL_law_1026 : decode cL_law 1026 = .ok (.iconst 1, 1) := by decide +kernel
theorem dL_law_1027 : decode cL_law 1027 = .ok (.iadd, 1) := by decide +kernel
theorem dL_law_1028 : decode cL_law 1028 = .ok (.iaload, 1) := by decide +kernel
theorem dL_law_1029 : decode cL_law 1029 = .ok (.aload_n 0, 1) := by decide +kernel
theorem dL_law_1030 : decode cL_law 1030 = .ok (.iload_n 3, 1) := by decide +kernel
theorem dL_law_1031 : decode cL_law 1031 = .ok (.iconst 2, 1) := by decide +kernel
theorem dL_law_1032 : decode cL_law 1032 = .ok (.iadd, 1) := by decide +kernel
theorem dL_law_1033 : decode cL_law 1033 = .ok (.iaload, 1) := by decide +kernel
theorem dL_law_1034 : decode cL_law 1034 = .ok (.invokevirtual 114, 3) := by decide +kernel
theorem dL_law_1037 : decode cL_law 1037 = .ok (.if_icmp .eq 74, 3) := by decide +kernel
theorem dL_law_1040 : decode cL_law 1040 = .ok (.iconst 0, 1) := by decide +kernel
theorem dL_law_1041 : decode cL_law 1041 = .ok (.ireturn, 1) := by decide +kernel
theorem dL_law_1042 : decode cL_law 1042 = .ok (.aload_n 1, 1) := by decide +kernel
theorem dL_law_1043 : decode cL_law 1043 = .ok (.aload_n 0, 1) := by decide +kernel
theorem dL_law_1044 : decode cL_law 1044 = .ok (.iload_n 3, 1) := by decide +kernel
theorem dL_law_1045 : decode cL_law 1045 = .ok (.iconst 1, 1) := by decide +kernel
theorem dL_law_1046 : decode cL_law 1046 = .ok (.iadd, 1) := by decide +kernel
theorem dL_law_1047 : decode cL_law 1047 = .ok (.iaload, 1) := by decide +kernel
theorem dL_law_1048 : decode cL_law 1048 = .ok (.invokevirtual 115, 3) := by decide +kernel
theorem dL_law_1051 : decode cL_law 1051 = .ok (.aload_n 2, 1) := by decide +kernel
theorem dL_law_1052 : decode cL_law 1052 = .ok (.aload_n 0, 1) := by decide +kernel
theorem dL_law_1053 : decode cL_law 1053 = .ok (.iload_n 3, 1) := by decide +kernel
theorem dL_law_1054 : decode cL_law 1054 = .ok (.iconst 1, 1) := by decide +kernel
theorem dL_law_1055 : decode cL_law 1055 = .ok (.iadd, 1) := by decide +kernel
theorem dL_law_1056 : decode cL_law 1056 = .ok (.iaload, 1) := by decide +kernel
theorem dL_law_1057 : decode cL_law 1057 = .ok (.invokevirtual 118, 3) := by decide +kernel
theorem dL_law_1060 : decode cL_law 1060 = .ok (.if_icmp .eq 51, 3) := by decide +kernel
theorem dL_law_1063 : decode cL_law 1063 = .ok (.iconst 0, 1) := by decide +kernel
theorem dL_law_1064 : decode cL_law 1064 = .ok (.ireturn, 1) := by decide +kernel
theorem dL_law_1065 : decode cL_law 1065 = .ok (.aload_n 1, 1) := by decide +kernel
theorem dL_law_1066 : decode cL_law 1066 = .ok (.aload_n 0, 1) := by decide +kernel
theorem dL_law_1067 : decode cL_law 1067 = .ok (.iload_n 3, 1) := by decide +kernel
theorem dL_law_1068 : decode cL_law 1068 = .ok (.iconst 1, 1) := by decide +kernel
theorem dL_law_1069 : decode cL_law 1069 = .ok (.iadd, 1) := by decide +kernel
theorem dL_law_1070 : decode cL_law 1070 = .ok (.iaload, 1) := by decide +kernel
theorem dL_law_1071 : decode cL_law 1071 = .ok (.invokevirtual 119, 3) := by decide +kernel
theorem dL_law_1074 : decode cL_law 1074 = .ok (.aload_n 2, 1) := by decide +kernel
theorem dL_law_1075 : decode cL_law 1075 = .ok (.aload_n 0, 1) := by decide +kernel
theorem dL_law_1076 : decode cL_law 1076 = .ok (.iload_n 3, 1) := by decide +kernel
theorem dL_law_1077 : decode cL_law 1077 = .ok (.iconst 1, 1) := by decide +kernel
theorem dL_law_1078 : decode cL_law 1078 = .ok (.iadd, 1) := by decide +kernel
theorem dL_law_1079 : decode cL_law 1079 = .ok (.iaload, 1) := by decide +kernel
theorem dL_law_1080 : decode cL_law 1080 = .ok (.invokevirtual 122, 3) := by decide +kernel
theorem dL_law_1083 : decode cL_law 1083 = .ok (.if_icmp .eq 28, 3) := by decide +kernel
theorem dL_law_1086 : decode cL_law 1086 = .ok (.iconst 0, 1) := by decide +kernel
theorem dL_law_1087 : decode cL_law 1087 = .ok (.ireturn, 1) := by decide +kernel
theorem dL_law_1088 : decode cL_law 1088 = .ok (.aload_n 1, 1) := by decide +kernel
theorem dL_law_1089 : decode cL_law 1089 = .ok (.aload_n 0, 1) := by decide +kernel
theorem dL_law_1090 : decode cL_law 1090 = .ok (.iload_n 3, 1) := by decide +kernel
theorem dL_law_1091 : decode cL_law 1091 = .ok (.iconst 1, 1) := by decide +kernel
theorem dL_law_1092 : decode cL_law 1092 = .ok (.iadd, 1) := by decide +kernel
theorem dL_law_1093 : decode cL_law 1093 = .ok (.iaload, 1) := by decide +kernel
theorem dL_law_1094 : decode cL_law 1094 = .ok (.invokevirtual 123, 3) := by decide +kernel
theorem dL_law_1097 : decode cL_law 1097 = .ok (.aload_n 2, 1) := by decide +kernel
theorem dL_law_1098 : decode cL_law 1098 = .ok (.aload_n 0, 1) := by decide +kernel
theorem dL_law_1099 : decode cL_law 1099 = .ok (.iload_n 3, 1) := by decide +kernel
theorem dL_law_1100 : decode cL_law 1100 = .ok (.iconst 1, 1) := by decide +kernel
theorem dL_law_1101 : decode cL_law 1101 = .ok (.iadd, 1) := by decide +kernel
theorem dL_law_1102 : decode cL_law 1102 = .ok (.iaload, 1) := by decide +kernel
theorem dL_law_1103 : decode cL_law 1103 = .ok (.invokevirtual 126, 3) := by decide +kernel
theorem dL_law_1106 : decode cL_law 1106 = .ok (.if_icmp .eq 5, 3) := by decide +kernel
theorem dL_law_1109 : decode cL_law 1109 = .ok (.iconst 0, 1) := by decide +kernel
theorem dL_law_1110 : decode cL_law 1110 = .ok (.ireturn, 1) := by decide +kernel
theorem dL_law_1111 : decode cL_law 1111 = .ok (.iinc 3 5, 3) := by decide +kernel
theorem dL_law_1114 : decode cL_law 1114 = .ok (.goto (-1096), 3) := by decide +kernel
theorem dL_law_1117 : decode cL_law 1117 = .ok (.iconst 1, 1) := by decide +kernel
theorem dL_law_1118 : decode cL_law 1118 = .ok (.ireturn, 1) := by decide +kernel
end
section
/-! the layer: what is known of the tables, contracts of methods that only read (pw_Mp) and that write (pw_Mm), their starts, ends and calls -/
/-- the words on nest mates' members and on arrays of own objects -/
def pw_NW (U : State) : Prop :=
  va_Nw (.fieldLinkNest "Pegrow" 34 "Pegrow$Row" "length" "I" "Pegrow") U ∧ va_Nw (.fieldLinkNest "Pegrow" 126 "Pegrow$Row" "changes" "I" "Pegrow") U ∧
  va_Nw (.fieldLinkNest "Pegrow" 119 "Pegrow$Peg" "row" "LPegrow$Row;" "Pegrow") U ∧ va_Nw (.fieldLinkNest "Pegrow" 129 "Pegrow$Peg" "ahead" "I" "Pegrow") U ∧
  va_Nw (.fieldLinkNest "Pegrow" 123 "Pegrow$Peg" "seen" "I" "Pegrow") U ∧ va_Nw (.fieldLinkNest "Pegrow" 136 "Pegrow$Peg" "hand" "I" "Pegrow") U ∧
  va_Nw (.fieldLinkNest "Pegrow" 171 "Pegrow$Peg" "held" "I" "Pegrow") U ∧ va_Nw (.fieldLinkNest "Pegrow" 167 "Pegrow$Peg" "missed" "Z" "Pegrow") U ∧
  va_Nw (.fieldLinkNest "Pegrow$Peg" 22 "Pegrow$Row" "changes" "I" "Pegrow") U ∧ va_Nw (.methodLinkNest "Pegrow" 21 yX1_init "Pegrow") U ∧ va_Nw (.methodLinkNest "Pegrow" 22 yX0_init "Pegrow") U ∧
  va_AO "Pegrow$Row" U ∧ va_AO "Pegrow$Peg" U
theorem pw_NW.moved {u U : State} (hW : u.WarmedH U.vm) (h : pw_NW u) : pw_NW U := by
  obtain ⟨h1, h2, h3, h4, h5, h6, h7, h8, h9, h10, h11, h12, h13⟩ := h
  exact ⟨va_Nw.warmF hW h1, va_Nw.warmF hW h2, va_Nw.warmF hW h3, va_Nw.warmF hW h4, va_Nw.warmF hW h5, va_Nw.warmF hW h6, va_Nw.warmF hW h7, va_Nw.warmF hW h8, va_Nw.warmF hW h9, va_Nw.warmM hW h10, va_Nw.warmM hW h11, va_AO.moved hW.alike h12, va_AO.moved hW.alike h13⟩
theorem pw_NW.same {u U : State} (hv : u.vm = U.vm) (h : pw_NW u) : pw_NW U := by
  obtain ⟨h1, h2, h3, h4, h5, h6, h7, h8, h9, h10, h11, h12, h13⟩ := h
  refine ⟨va_Nw.same rfl hv h1, va_Nw.same rfl hv h2, va_Nw.same rfl hv h3, va_Nw.same rfl hv h4, va_Nw.same rfl hv h5, va_Nw.same rfl hv h6, va_Nw.same rfl hv h7, va_Nw.same rfl hv h8, va_Nw.same rfl hv h9, va_Nw.same rfl hv h10, va_Nw.same rfl hv h11, va_AO.moved ?_ h12, va_AO.moved ?_ h13⟩ <;> (rw [hv]; exact Vm.Alike.refl _)
abbrev pw_tys (cI cP cR : ClassId) : List (ClassId × FieldType) := [(cI, .int), (cP, .object "Pegrow$Peg"), (cR, .object "Pegrow$Row")]
def pw_K (D : va_G) (cI cP cR : ClassId) (U : State) : Prop := va_K D vwCl (pw_tys cI cP cR) U ∧ pw_NW U
theorem pw_K.moved {D : va_G} {cI cP cR : ClassId} {u U : State} (hW : u.WarmedH U.vm) (h : pw_K D cI cP cR u) : pw_K D cI cP cR U := ⟨va_K.moved hW.alike h.1, h.2.moved hW⟩
theorem pw_K.calling {D : va_G} {cI cP cR : ClassId} {U : State} {g : JFrame} {mk : MethodId} {a : Array Value} (h : pw_K D cI cP cR U) : pw_K D cI cP cR (U.calling g mk a) :=
  ⟨va_K.moved (u := U) (U := U.calling g mk a) (Vm.Alike.refl U.vm) h.1, h.2.same rfl⟩
/-- the start of a method -/
def pw_Pc (D : va_G) (cI cP cR : ClassId) (as : List Value) (W0 : va_W) (sz : Nat) : Array Value → State → Prop :=
  va_Pc as (fun U => U.heap.size = sz ∧ va_P D vwCl W0 U.heap ∧ pw_K D cI cP cR U ∧ va_D (fun _ => True) W0)
/-- the end of a method that only reads -/
def pw_Qp (v : Value) : Array Value → State → Outcome → State → Prop := fun _ st oc t => oc = .returned (some v) ∧ t.heap = st.heap
/-- the end of a method that writes -/
def pw_Qm (post : Option Value → va_W → Prop) (D : va_G) (A : Nat → Prop) : Array Value → State → Outcome → State → Prop := fun _ st oc t =>
  (∃ (v : Option Value) (w : va_W), oc = .returned v ∧ post v w ∧ va_P D vwCl w t.heap ∧ va_D A w) ∧ va_F A st t
abbrev pw_Mp (l : Launch) (y : MethodName) (ws : List Cond) (rm : Room) (D : va_G) (cI cP cR : ClassId) (as : List Value) (W0 : va_W) (v : Value) : Prop :=
  ∀ sz : Nat, Met l y ws rm (pw_Pc D cI cP cR as W0 sz) (pw_Qp v) 0 0 (fun _ => False)
abbrev pw_Mm (l : Launch) (y : MethodName) (ws : List Cond) (rm : Room) (D : va_G) (cI cP cR : ClassId) (as : List Value) (W0 : va_W) (post : Option Value → va_W → Prop) : Prop :=
  ∀ sz : Nat, Met l y ws rm (pw_Pc D cI cP cR as W0 sz) (pw_Qm post D (va_A W0 sz)) 0 0 (va_A W0 sz)
/-- what a walk has at hand -/
def pw_E (p : Program) (s : State) (m : MethodId) (args : Array Value) (meth : Method) (c : Code) (cc : ByteArray) (ret : Option FieldType) (maxL : Nat) (own : String) (ws : List Cond) : Prop :=
  p.tables.exec = Jvm.exec ∧ c.code = cc ∧ meth.sig.returnType = ret ∧ c.maxLocals = maxL ∧ s.vm.findClass own = some m.cls ∧ (∀ w ∈ ws, w.before args s = true) ∧ meth.locks = false
theorem pw_ofm {l : Launch} {y : MethodName} {ws ws' : List Cond} {rm : Room} {D : va_G} {cI cP cR : ClassId} {as : List Value} {W0 : va_W} {post : Option Value → va_W → Prop} {cc : ByteArray} {maxL : Nat} {ret : Option FieldType} {own : String}
    (hy : plainName y.cls = true) (hw : ws = Cond.code y cc maxL ret :: ws') (hyc : y.cls = own) (hfit : (lg_sl as).length ≤ maxL)
    (body : ∀ (p : Program) (e : Env) (s : State) (m : MethodId) (below : List Frame) (meth : Method) (c : Code) (A : Nat → Prop), pw_E p s m as.toArray meth c cc ret maxL own ws → pw_K D cI cP cR s → va_P D vwCl W0 s.heap → va_D A W0 → (∀ q, s.heap.size ≤ q → A q) → va_S A s.heap s.heap [] → ∀ ls : Array Slot, lv_has ls maxL (lv_args 0 as) →
      W p l e rm s m as.toArray below meth c s.heap [] 0 0 (MQ below (pw_Qm post D A) as.toArray s 0 0 A) (F0 m 0 ls [])) : pw_Mm l y ws rm D cI cP cR as W0 post := by
  intro sz
  refine Met.ofW (cc := cc) (maxL := maxL) (ret := ret) hy hw ?_
  intro p e s m args below meth c s₁ B hml hv
  obtain ⟨rfl, hsz, hP, hK, hD0⟩ := hv
  have hts := atoms_spec (ws := ws) B.pre
  have hown : s.vm.findClass own = some m.cls := hyc ▸ findClass_of_methodNamed B.named
  subst hsz
  have hl := lv_entry as (n := maxL) hfit
  rw [lg_entry_eq]
  exact body p e s m below meth c _ ⟨B.exec, B.bytes, B.returns, hml, hown, hts, B.notSynchronized⟩ hK hP (hD0.self (sz := s.heap.size)) (fun q h => Or.inr h) va_S.rf _ hl
theorem pw_ofp {l : Launch} {y : MethodName} {ws ws' : List Cond} {rm : Room} {D : va_G} {cI cP cR : ClassId} {as : List Value} {W0 : va_W} {v : Value} {cc : ByteArray} {maxL : Nat} {ret : Option FieldType} {own : String}
    (hy : plainName y.cls = true) (hw : ws = Cond.code y cc maxL ret :: ws') (hyc : y.cls = own) (hfit : (lg_sl as).length ≤ maxL)
    (body : ∀ (p : Program) (e : Env) (s : State) (m : MethodId) (below : List Frame) (meth : Method) (c : Code), pw_E p s m as.toArray meth c cc ret maxL own ws → pw_K D cI cP cR s → va_P D vwCl W0 s.heap → va_D (fun _ => True) W0 → ∀ ls : Array Slot, lv_has ls maxL (lv_args 0 as) →
      W p l e rm s m as.toArray below meth c s.heap [] 0 0 (MQ below (pw_Qp v) as.toArray s 0 0 (fun _ => False)) (F0 m 0 ls [])) : pw_Mp l y ws rm D cI cP cR as W0 v := by
  intro sz
  refine Met.ofW (cc := cc) (maxL := maxL) (ret := ret) hy hw ?_
  intro p e s m args below meth c s₁ B hml hv
  obtain ⟨rfl, hsz, hP, hK, hD0⟩ := hv
  have hts := atoms_spec (ws := ws) B.pre
  have hown : s.vm.findClass own = some m.cls := hyc ▸ findClass_of_methodNamed B.named
  subst hsz
  have hl := lv_entry as (n := maxL) hfit
  rw [lg_entry_eq]
  exact body p e s m below meth c ⟨B.exec, B.bytes, B.returns, hml, hown, hts, B.notSynchronized⟩ hK hP hD0 _ hl
section PWL
variable {p : Program} {l : Launch} {e : Env} {R : Room} {s : State} {m : MethodId} {args : Array Value} {below : List Frame} {meth : Method} {c : Code} {H : Heap} {locs : List Loc} {cells slots : Nat} {Q : State → Prop}
variable {cc : ByteArray} {pc : Nat} {ls : Array Slot} {rest st0 : List Value} {D : va_G} {cI cP cR : ClassId} {A : Nat → Prop} {y : MethodName} {bytes : ByteArray} {maxL nL n index : Nat} {ret : Option FieldType} {ws Ts : List Cond} {rm : Room} {own C : String} {b : Nat} {As : List Value}
variable {w wc wr w1 : va_W} {v : Value} {post : Option Value → va_W → Prop}
theorem pw_iret {x : Int32} {ty : FieldType} (hx : p.tables.exec = Jvm.exec) (hb : c.code = cc) (hr : meth.sig.returnType = some ty) (hn : narrow ty (.int x) = .int x) (hlocks : meth.locks = false) (hdg : decode cc pc = .ok (.ireturn, 1)) (hS : va_S A s.heap H locs) (hP : va_P D vwCl w H) (hD : va_D A w) (hq : post (some (.int x)) w) :
    W p l e R s m args below meth c H locs 0 0 (MQ below (pw_Qm post D A) args s 0 0 A) (F0 m pc ls [.int x]) :=
  W.zret hx hb hr hn (fun t ht _ => ⟨⟨_, w, rfl, hq, by rw [ht]; exact hP, hD⟩, hS.F ht⟩) hS.2.2 hdg hlocks
theorem pw_vret (hx : p.tables.exec = Jvm.exec) (hb : c.code = cc) (hr : meth.sig.returnType = none) (hlocks : meth.locks = false) (hdg : decode cc pc = .ok (.return_, 1)) (hS : va_S A s.heap H locs) (hP : va_P D vwCl w H) (hD : va_D A w) (hq : post none w) :
    W p l e R s m args below meth c H locs 0 0 (MQ below (pw_Qm post D A) args s 0 0 A) (F0 m pc ls []) :=
  W.vret hx hb hr (fun t ht _ => ⟨⟨_, w, rfl, hq, by rw [ht]; exact hP, hD⟩, hS.F ht⟩) hS.2.2 hdg hlocks
theorem pw_piret {x : Int32} {ty : FieldType} (hx : p.tables.exec = Jvm.exec) (hb : c.code = cc) (hr : meth.sig.returnType = some ty) (hn : narrow ty (.int x) = .int x) (hlocks : meth.locks = false) (hdg : decode cc pc = .ok (.ireturn, 1)) (hq : v = .int x) :
    W p l e R s m args below meth c s.heap [] 0 0 (MQ below (pw_Qp v) args s 0 0 (fun _ => False)) (F0 m pc ls [.int x]) :=
  W.zret hx hb hr hn (fun t ht _ => ⟨by rw [hq], ht⟩) (fun _ h => by cases h) hdg hlocks
theorem pw_paret {nm : String} {x : Value} (hx : p.tables.exec = Jvm.exec) (hb : c.code = cc) (hr : meth.sig.returnType = some (.object nm)) (hlocks : meth.locks = false) (hdg : decode cc pc = .ok (.areturn, 1)) (hv : x = .null ∨ ∃ a, x = .ref a) (hq : v = x) :
    W p l e R s m args below meth c s.heap [] 0 0 (MQ below (pw_Qp v) args s 0 0 (fun _ => False)) (F0 m pc ls [x]) :=
  W.aret hx hb hr (Or.inl ⟨_, rfl⟩) hv (fun t ht _ => ⟨by rw [hq], ht⟩) (fun _ h => by cases h) hdg hlocks
theorem pw_preS (hK : pw_K D cI cP cR s) (hP : va_P D vwCl wc H) (hD : va_D A wc) : PreS s H (pw_Pc D cI cP cR As wc H.size) As :=
  ⟨fun a U g mk q => ⟨q.1, q.2.1, q.2.2.1, q.2.2.2.1.calling, q.2.2.2.2⟩, fun U hU hW => ⟨rfl, by rw [hU], by rw [hU]; exact hP, hK.moved hW, hD.weaken (fun _ _ _ _ => trivial)⟩⟩
theorem pw_preV (hK : pw_K D cI cP cR s) (hP : va_P D vwCl wc H) (hD : va_D A wc) (q0 : Nat) {ci : Nat} {fs : List Value} {r : vw_C} (he : wc[q0]? = some (b, .inr (ci, fs))) (hc : vwCl[ci]? = some r) : PreV s H r.1 b (pw_Pc D cI cP cR (.ref b :: As) wc H.size) As :=
  ⟨fun a U g mk q => ⟨q.1, q.2.1, q.2.2.1, q.2.2.2.1.calling, q.2.2.2.2⟩, va_recv hK.1 hP hc he, fun U hU hW => ⟨rfl, by rw [hU], by rw [hU]; exact hP, hK.moved hW, hD.weaken (fun _ _ _ _ => trivial)⟩⟩
theorem pw_goesp {a : Array Value} (hr : va_Run p l e R s m args below meth c H locs cells slots 0 0 (F0 m pc ls st0) rest (pw_Qp v a) (fun _ => False))
    (kk : W p l e R s m args below meth c H locs cells slots Q (F0 m (pc + 3) ls (v :: rest))) : W p l e R s m args below meth c H locs cells slots Q (F0 m pc ls st0) := by
  intro T hT X
  obtain ⟨v', st₀, t, T', L, h0, X', hL, e1, e2, ⟨hv, hh⟩, st⟩ := hr T hT X
  cases hv
  obtain ⟨t2, a1, b1⟩ := kk T' (by rw [e1, hh, h0]) (Stand.forget X' (fun q h => (hL q h).elim))
  exact ⟨t2, st t2 a1, b1⟩
theorem pw_goesm {a : Array Value} (hr : va_Run p l e R s m args below meth c H locs cells slots 0 0 (F0 m pc ls st0) rest (pw_Qm post D (va_A wc H.size) a) (va_A wc H.size))
    (hP : va_P D vwCl w H) (hD : va_D A w) (hS : va_S A s.heap H locs) (hA : ∀ q, s.heap.size ≤ q → A q) (isC isR : List Nat) (hC : isC.map (fun i => w[i]?) = wc.map some) (hR : isR.map (fun i => w[i]?) = wr.map some) (hn : va_nd isR = true) (hdis : ∀ i ∈ isR, i ∉ isC)
    (kk : ∀ (v : Option Value) (w1 : va_W) (H1 : Heap) (locs1 : List Loc), post v w1 → va_P D vwCl (wr ++ w1) H1 → va_D A (wr ++ w1) → va_S A s.heap H1 locs1 → W p l e R s m args below meth c H1 locs1 cells slots Q (F0 m (pc + 3) ls (v.toList ++ rest))) : W p l e R s m args below meth c H locs cells slots Q (F0 m pc ls st0) := by
  intro T hT X
  obtain ⟨v', st₀, t, T', L, h0, X', hL, e1, e2, ⟨⟨v1, w1, hv, hp, hP1, hD1⟩, hz, hk⟩, st⟩ := hr T hT X
  cases hv
  rw [h0] at hz hk
  have hF := va_free hD hS hA isC hC
  have hP1' : va_P D vwCl w1 T'.heap := by rw [e1]; exact hP1
  obtain ⟨hPj, hDj⟩ := va_join hP hD isC isR hC hR hn hdis (fun q h1 h2 => by rw [e1]; exact hk q h1 h2) hF hP1' hD1
  obtain ⟨t2, a1, b1⟩ := kk v' w1 T'.heap (locs ++ L) hp hPj hDj ⟨Nat.le_trans hS.1 (by rw [e1]; exact hz), fun q h1 h2 => by rw [e1, hk q (Nat.lt_of_lt_of_le h1 hS.1) (fun z => h2 (hF q z))]; exact hS.2.1 q h1 h2, fun q hq => by
      rcases List.mem_append.mp hq with h | h
      · exact hS.2.2 q h
      · exact hF _ (hL q h)⟩ T' rfl X'
  exact ⟨t2, st t2 a1, b1⟩
/-- a call of a method that only reads, by its receiver -/
theorem pw_cVp (S : CallFix p m c cc nL s args Ts own) (hM : pw_Mp l y ws rm D cI cP cR (.ref b :: As) wc v) (cw : CallW R s args own C index y bytes maxL ret ws rm 0 0 n) (hK : pw_K D cI cP cR s) (hP : va_P D vwCl w H) (hD : va_D A w) (isC : List Nat) (hC : isC.map (fun i => w[i]?) = wc.map some) (hnC : va_nd isC = true)
    (q0 : Nat) {ci : Nat} {fs : List Value} {r : vw_C} (he : wc[q0]? = some (b, .inr (ci, fs))) (hc : vwCl[ci]? = some r) (hCr : r.1 = C) (hn : As.length = n) (hsize : ls.size = nL) (hst : st0 = As.reverse ++ .ref b :: rest) (hW : (rest.map fun v => v.category).sum ≤ 8) (hdg : decode cc pc = .ok (.invokevirtual index, 3)) (hf : cells ≤ R.cells ∧ slots ≤ R.slots)
    (kk : W p l e R s m args below meth c H locs cells slots Q (F0 m (pc + 3) ls (v :: rest))) : W p l e R s m args below meth c H locs cells slots Q (F0 m pc ls st0) :=
  have hPc : va_P D vwCl wc H := hP.sub isC (by
    have h2 := congrArg (fun z => z.filterMap id) hC
    simpa [List.filterMap_map, Function.comp_def] using h2)
  by subst hCr; exact pw_goesp (va_runV (g := F0 m pc ls st0) S (hM H.size) cw (pw_preV hK hPc (hD.sub isC hnC hC) q0 he hc) rfl hn hsize hst (lv_room hW) hdg hf) kk
theorem pw_cSp (S : CallFix p m c cc nL s args Ts own) (hM : pw_Mp l y ws rm D cI cP cR As [] v) (cw : CallB R s args own index y bytes maxL ret ws rm 0 0 n ∧ (Cond.static y).before args s = true) (hK : pw_K D cI cP cR s)
    (hn : As.length = n) (hsize : ls.size = nL) (hst : st0 = As.reverse ++ rest) (hW : (rest.map fun v => v.category).sum ≤ 8) (hdg : decode cc pc = .ok (.invokestatic index, 3)) (hf : cells ≤ R.cells ∧ slots ≤ R.slots)
    (kk : W p l e R s m args below meth c H locs cells slots Q (F0 m (pc + 3) ls (v :: rest))) : W p l e R s m args below meth c H locs cells slots Q (F0 m pc ls st0) :=
  pw_goesp (va_runS (g := F0 m pc ls st0) S (hM H.size) cw (pw_preS (A := fun _ => True) hK (fun k q h => by simp at h) ⟨fun i j p q h => by simp at h, fun k q h => by simp at h⟩) rfl hn hsize hst (lv_room hW) hdg hf) kk
/-- a call of a method that writes, by its receiver -/
theorem pw_cVm (S : CallFix p m c cc nL s args Ts own) (hM : pw_Mm l y ws rm D cI cP cR (.ref b :: As) wc post) (cw : CallW R s args own C index y bytes maxL ret ws rm 0 0 n) (hK : pw_K D cI cP cR s) (hP : va_P D vwCl w H) (hD : va_D A w) (hS : va_S A s.heap H locs) (hA : ∀ q, s.heap.size ≤ q → A q) (isC isR : List Nat) (hC : isC.map (fun i => w[i]?) = wc.map some) (hR : isR.map (fun i => w[i]?) = wr.map some) (hnC : va_nd isC = true) (hnR : va_nd isR = true) (hdis : ∀ i ∈ isR, i ∉ isC)
    (q0 : Nat) {ci : Nat} {fs : List Value} {r : vw_C} (he : wc[q0]? = some (b, .inr (ci, fs))) (hc : vwCl[ci]? = some r) (hCr : r.1 = C) (hn : As.length = n) (hsize : ls.size = nL) (hst : st0 = As.reverse ++ .ref b :: rest) (hW : (rest.map fun v => v.category).sum ≤ 8) (hdg : decode cc pc = .ok (.invokevirtual index, 3)) (hf : cells ≤ R.cells ∧ slots ≤ R.slots)
    (kk : ∀ (v : Option Value) (w1 : va_W) (H1 : Heap) (locs1 : List Loc), post v w1 → va_P D vwCl (wr ++ w1) H1 → va_D A (wr ++ w1) → va_S A s.heap H1 locs1 → W p l e R s m args below meth c H1 locs1 cells slots Q (F0 m (pc + 3) ls (v.toList ++ rest))) : W p l e R s m args below meth c H locs cells slots Q (F0 m pc ls st0) :=
  have hPc : va_P D vwCl wc H := hP.sub isC (by
    have h2 := congrArg (fun z => z.filterMap id) hC
    simpa [List.filterMap_map, Function.comp_def] using h2)
  by subst hCr; exact pw_goesm (va_runV (g := F0 m pc ls st0) S (hM H.size) cw (pw_preV hK hPc (hD.sub isC hnC hC) q0 he hc) rfl hn hsize hst (lv_room hW) hdg hf) hP hD hS hA isC isR hC hR hnR hdis kk
end PWL
end
section
/-! rows over numbers that are nI of a Nat, and over answers 'if P then 1 else 0' -/
theorem pw_eqN {a b : Nat} (ha : a < 2147483648) (hb : b < 2147483648) : nI a = nI b ↔ a = b := nI_eq ha hb
theorem pw_ltN {a b : Nat} (ha : a < 2147483648) (hb : b < 2147483648) : nI a < nI b ↔ a < b := nI_ltI ha hb
theorem pw_leN {a b : Nat} (ha : a < 2147483648) (hb : b < 2147483648) : nI a ≤ nI b ↔ a ≤ b := nI_leI ha hb
theorem pw_subN {a b : Nat} (h : b ≤ a) : nI a - nI b = nI (a - b) := pk_sub h
theorem pw_inP {p : Int32} {n : Nat} (hn : n < 2147483648) (h : 0 ≤ p ∧ p < nI n) : ∃ j : Nat, j < n ∧ p = nI j := by
  rcases pk_ix p (n := n) hn with h1 | h1 | ⟨j, h1, h2⟩
  · exact absurd h1 (Int32.not_lt.mpr h.1)
  · exact absurd h.2 (Int32.not_lt.mpr h1)
  · exact ⟨j, h1, h2⟩
theorem pw_inL {p : Int32} {n : Nat} (hn : n < 2147483647) (h : 0 ≤ p ∧ p ≤ nI n) : ∃ j : Nat, j ≤ n ∧ p = nI j := by
  obtain ⟨j, h1, h2⟩ := pw_inP (p := p) (n := n + 1) (by omega) ⟨h.1, by
    rw [Int32.lt_iff_toInt_lt, nI_toInt (by omega)]
    have := h.2
    rw [Int32.le_iff_toInt_le, nI_toInt (by omega)] at this
    omega⟩
  exact ⟨j, by omega, h2⟩
theorem pw_ge0 {n : Nat} (h : n < 2147483648) : (0 : Int32) ≤ nI n := nI_pos' h
section PWR
variable {p : Program} {l : Launch} {e : Env} {R : Room} {s : State} {m : MethodId} {args : Array Value} {below : List Frame} {meth : Method} {c : Code} {H : Heap} {locs : List Loc} {cells slots : Nat} {Q : State → Prop}
variable {cc : ByteArray} {pc : Nat} {ls : Array Slot} {rest : List Value} {D : va_G} {A : Nat → Prop} {a : Nat} {tys : List (ClassId × FieldType)} {ws : va_W} {H0 : Heap} {cl : List vw_C}
theorem pw_iald (hexec : p.tables.exec = Jvm.exec) (hb : c.code = cc) (hK : va_K D cl tys s) (hP : va_P D cl ws H) (q0 t0 : Nat) {cA : ClassId} {n : Nat} {f : Nat → Int32} (ha : ws[q0]? = some (a, .inl (cA, n, .inl f))) (ht : tys[t0]? = some (cA, .int)) (hn : n < 2147483648) {j : Nat} (hj : j < n) (hdg : decode cc pc = .ok (.iaload, 1))
    (kk : W p l e R s m args below meth c H locs cells slots Q (F0 m (pc + 1) ls (.int (f j) :: rest))) : W p l e R s m args below meth c H locs cells slots Q (F0 m pc ls (.int (nI j) :: .ref a :: rest)) :=
  va_iald hexec hb hK hP q0 t0 ha ht (vp_in_nI hj hn) hdg (by rw [nI_clamp (Nat.lt_trans hj hn)]; exact kk)
theorem pw_iast (hexec : p.tables.exec = Jvm.exec) (hb : c.code = cc) (hK : va_K D cl tys s) (hP : va_P D cl ws H) (hD : va_D A ws) (hS : va_S A H0 H locs) (q0 t0 : Nat) {cA : ClassId} {n : Nat} {f : Nat → Int32} (ha : ws[q0]? = some (a, .inl (cA, n, .inl f))) (ht : tys[t0]? = some (cA, .int)) (hn : n < 2147483648) {j : Nat} {x : Int32} (hj : j < n) (hdg : decode cc pc = .ok (.iastore, 1))
    (kk : ∀ (H1 : Heap) (locs1 : List Loc), va_P D cl (ws.set q0 (a, .inl (cA, n, .inl (upd f j x)))) H1 → va_D A (ws.set q0 (a, .inl (cA, n, .inl (upd f j x)))) → va_S A H0 H1 locs1 → W p l e R s m args below meth c H1 locs1 cells slots Q (F0 m (pc + 1) ls rest)) : W p l e R s m args below meth c H locs cells slots Q (F0 m pc ls (.int x :: .int (nI j) :: .ref a :: rest)) :=
  va_iast hexec hb hK hP hD hS q0 t0 ha ht (vp_in_nI hj hn) hdg (by rw [nI_clamp (Nat.lt_trans hj hn)]; exact kk)
theorem pw_aldq (hexec : p.tables.exec = Jvm.exec) (hb : c.code = cc) (hK : va_K D cl tys s) (hP : va_P D cl ws H) (q0 t0 : Nat) {cA : ClassId} {C : String} {n : Nat} {f : Nat → Nat} (ha : ws[q0]? = some (a, .inl (cA, n, .inr (.inr (.inr (.inr (fun i => some (f i)))))))) (ht : tys[t0]? = some (cA, .object C)) (hn : n < 2147483648) {j : Nat} (hj : j < n) (hdg : decode cc pc = .ok (.aaload, 1))
    (kk : W p l e R s m args below meth c H locs cells slots Q (F0 m (pc + 1) ls (.ref (f j) :: rest))) : W p l e R s m args below meth c H locs cells slots Q (F0 m pc ls (.int (nI j) :: .ref a :: rest)) :=
  va_aldq hexec hb hK hP q0 t0 ha ht (vp_in_nI hj hn) hdg (by rw [nI_clamp (Nat.lt_trans hj hn)]; exact kk)
theorem pw_iadd (hexec : p.tables.exec = Jvm.exec) (hb : c.code = cc) {x y : Nat} (hdg : decode cc pc = .ok (.iadd, 1))
    (k : W p l e R s m args below meth c H locs cells slots Q (F0 m (pc + 1) ls (.int (nI (x + y)) :: rest))) : W p l e R s m args below meth c H locs cells slots Q (F0 m pc ls (.int (nI y) :: .int (nI x) :: rest)) :=
  lv_iadd hexec hb hdg (by rw [nI_add]; exact k)
theorem pw_isub (hexec : p.tables.exec = Jvm.exec) (hb : c.code = cc) {x y : Nat} (h : y ≤ x) (hdg : decode cc pc = .ok (.isub, 1))
    (k : W p l e R s m args below meth c H locs cells slots Q (F0 m (pc + 1) ls (.int (nI (x - y)) :: rest))) : W p l e R s m args below meth c H locs cells slots Q (F0 m pc ls (.int (nI y) :: .int (nI x) :: rest)) :=
  lv_isub hexec hb hdg (by rw [pw_subN h]; exact k)
theorem pw_imul (hexec : p.tables.exec = Jvm.exec) (hb : c.code = cc) {x y : Nat} (hdg : decode cc pc = .ok (.imul, 1))
    (k : W p l e R s m args below meth c H locs cells slots Q (F0 m (pc + 1) ls (.int (nI (x * y)) :: rest))) : W p l e R s m args below meth c H locs cells slots Q (F0 m pc ls (.int (nI y) :: .int (nI x) :: rest)) :=
  lv_imul hexec hb hdg (by rw [pk_mul]; exact k)
theorem pw_icmp_eq (hexec : p.tables.exec = Jvm.exec) (hb : c.code = cc) {x y : Nat} {off : Int} {tgt : Nat} (hx : x < 2147483648) (hy : y < 2147483648) (hdg : decode cc pc = .ok (.if_icmp .eq off, 3)) (ht : (pc : Int) + off = (tgt : Int))
    (kt : x = y → W p l e R s m args below meth c H locs cells slots Q (F0 m tgt ls rest)) (kf : ¬ x = y → W p l e R s m args below meth c H locs cells slots Q (F0 m (pc + 3) ls rest)) : W p l e R s m args below meth c H locs cells slots Q (F0 m pc ls (.int (nI y) :: .int (nI x) :: rest)) :=
  lv_icmp_eq hexec hb hdg ht (fun h => kt ((pw_eqN hx hy).mp h)) (fun h => kf (fun q => h ((pw_eqN hx hy).mpr q)))
theorem pw_icmp_ne (hexec : p.tables.exec = Jvm.exec) (hb : c.code = cc) {x y : Nat} {off : Int} {tgt : Nat} (hx : x < 2147483648) (hy : y < 2147483648) (hdg : decode cc pc = .ok (.if_icmp .ne off, 3)) (ht : (pc : Int) + off = (tgt : Int))
    (kt : ¬ x = y → W p l e R s m args below meth c H locs cells slots Q (F0 m tgt ls rest)) (kf : x = y → W p l e R s m args below meth c H locs cells slots Q (F0 m (pc + 3) ls rest)) : W p l e R s m args below meth c H locs cells slots Q (F0 m pc ls (.int (nI y) :: .int (nI x) :: rest)) :=
  lv_icmp_ne hexec hb hdg ht (fun h => kt (fun q => h ((pw_eqN hx hy).mpr q))) (fun h => kf ((pw_eqN hx hy).mp h))
theorem pw_icmp_lt (hexec : p.tables.exec = Jvm.exec) (hb : c.code = cc) {x y : Nat} {off : Int} {tgt : Nat} (hx : x < 2147483648) (hy : y < 2147483648) (hdg : decode cc pc = .ok (.if_icmp .lt off, 3)) (ht : (pc : Int) + off = (tgt : Int))
    (kt : x < y → W p l e R s m args below meth c H locs cells slots Q (F0 m tgt ls rest)) (kf : y ≤ x → W p l e R s m args below meth c H locs cells slots Q (F0 m (pc + 3) ls rest)) : W p l e R s m args below meth c H locs cells slots Q (F0 m pc ls (.int (nI y) :: .int (nI x) :: rest)) :=
  lv_icmp_lt hexec hb hdg ht (fun h => kt ((pw_ltN hx hy).mp h)) (fun h => kf (Nat.not_lt.mp (fun q => h ((pw_ltN hx hy).mpr q))))
theorem pw_icmp_ge (hexec : p.tables.exec = Jvm.exec) (hb : c.code = cc) {x y : Nat} {off : Int} {tgt : Nat} (hx : x < 2147483648) (hy : y < 2147483648) (hdg : decode cc pc = .ok (.if_icmp .ge off, 3)) (ht : (pc : Int) + off = (tgt : Int))
    (kt : y ≤ x → W p l e R s m args below meth c H locs cells slots Q (F0 m tgt ls rest)) (kf : x < y → W p l e R s m args below meth c H locs cells slots Q (F0 m (pc + 3) ls rest)) : W p l e R s m args below meth c H locs cells slots Q (F0 m pc ls (.int (nI y) :: .int (nI x) :: rest)) :=
  lv_icmp_ge hexec hb hdg ht (fun h => kt ((pw_leN hy hx).mp h)) (fun h => kf (Nat.not_le.mp (fun q => h ((pw_leN hy hx).mpr q))))
theorem pw_icmp_gt (hexec : p.tables.exec = Jvm.exec) (hb : c.code = cc) {x y : Nat} {off : Int} {tgt : Nat} (hx : x < 2147483648) (hy : y < 2147483648) (hdg : decode cc pc = .ok (.if_icmp .gt off, 3)) (ht : (pc : Int) + off = (tgt : Int))
    (kt : y < x → W p l e R s m args below meth c H locs cells slots Q (F0 m tgt ls rest)) (kf : x ≤ y → W p l e R s m args below meth c H locs cells slots Q (F0 m (pc + 3) ls rest)) : W p l e R s m args below meth c H locs cells slots Q (F0 m pc ls (.int (nI y) :: .int (nI x) :: rest)) :=
  lv_icmp_gt hexec hb hdg ht (fun h => kt ((pw_ltN hy hx).mp h)) (fun h => kf (Nat.not_lt.mp (fun q => h ((pw_ltN hy hx).mpr q))))
theorem pw_icmp_le (hexec : p.tables.exec = Jvm.exec) (hb : c.code = cc) {x y : Nat} {off : Int} {tgt : Nat} (hx : x < 2147483648) (hy : y < 2147483648) (hdg : decode cc pc = .ok (.if_icmp .le off, 3)) (ht : (pc : Int) + off = (tgt : Int))
    (kt : x ≤ y → W p l e R s m args below meth c H locs cells slots Q (F0 m tgt ls rest)) (kf : y < x → W p l e R s m args below meth c H locs cells slots Q (F0 m (pc + 3) ls rest)) : W p l e R s m args below meth c H locs cells slots Q (F0 m pc ls (.int (nI y) :: .int (nI x) :: rest)) :=
  lv_icmp_le hexec hb hdg ht (fun h => kt ((pw_leN hx hy).mp h)) (fun h => kf (Nat.not_le.mp (fun q => h ((pw_leN hx hy).mpr q))))
theorem pw_if_eq (hexec : p.tables.exec = Jvm.exec) (hb : c.code = cc) {x : Nat} {off : Int} {tgt : Nat} (hx : x < 2147483648) (hdg : decode cc pc = .ok (.ifCond .eq off, 3)) (ht : (pc : Int) + off = (tgt : Int))
    (kt : x = 0 → W p l e R s m args below meth c H locs cells slots Q (F0 m tgt ls rest)) (kf : ¬ x = 0 → W p l e R s m args below meth c H locs cells slots Q (F0 m (pc + 3) ls rest)) : W p l e R s m args below meth c H locs cells slots Q (F0 m pc ls (.int (nI x) :: rest)) :=
  lv_if_eq hexec hb hdg ht (fun h => kt ((pw_eqN hx (by decide)).mp (h.trans nI_0.symm))) (fun h => kf (fun q => h (by rw [q]; exact nI_0)))
theorem pw_if_ne (hexec : p.tables.exec = Jvm.exec) (hb : c.code = cc) {x : Nat} {off : Int} {tgt : Nat} (hx : x < 2147483648) (hdg : decode cc pc = .ok (.ifCond .ne off, 3)) (ht : (pc : Int) + off = (tgt : Int))
    (kt : ¬ x = 0 → W p l e R s m args below meth c H locs cells slots Q (F0 m tgt ls rest)) (kf : x = 0 → W p l e R s m args below meth c H locs cells slots Q (F0 m (pc + 3) ls rest)) : W p l e R s m args below meth c H locs cells slots Q (F0 m pc ls (.int (nI x) :: rest)) :=
  lv_if_ne hexec hb hdg ht (fun h => kt (fun q => h (by rw [q]; exact nI_0))) (fun h => kf ((pw_eqN hx (by decide)).mp (h.trans nI_0.symm)))
theorem pw_if_gt (hexec : p.tables.exec = Jvm.exec) (hb : c.code = cc) {x : Nat} {off : Int} {tgt : Nat} (hx : x < 2147483648) (hdg : decode cc pc = .ok (.ifCond .gt off, 3)) (ht : (pc : Int) + off = (tgt : Int))
    (kt : 0 < x → W p l e R s m args below meth c H locs cells slots Q (F0 m tgt ls rest)) (kf : x = 0 → W p l e R s m args below meth c H locs cells slots Q (F0 m (pc + 3) ls rest)) : W p l e R s m args below meth c H locs cells slots Q (F0 m pc ls (.int (nI x) :: rest)) :=
  lv_if_gt hexec hb hdg ht (fun h => kt ((pw_ltN (by decide) hx).mp (by rw [nI_0]; exact h))) (fun h => kf (Nat.eq_zero_of_not_pos (fun q => h (by rw [← nI_0]; exact (pw_ltN (by decide) hx).mpr q))))
theorem pw_if_le (hexec : p.tables.exec = Jvm.exec) (hb : c.code = cc) {x : Nat} {off : Int} {tgt : Nat} (hx : x < 2147483648) (hdg : decode cc pc = .ok (.ifCond .le off, 3)) (ht : (pc : Int) + off = (tgt : Int))
    (kt : x = 0 → W p l e R s m args below meth c H locs cells slots Q (F0 m tgt ls rest)) (kf : 0 < x → W p l e R s m args below meth c H locs cells slots Q (F0 m (pc + 3) ls rest)) : W p l e R s m args below meth c H locs cells slots Q (F0 m pc ls (.int (nI x) :: rest)) :=
  lv_if_le hexec hb hdg ht (fun h => kt (Nat.le_zero.mp ((pw_leN hx (by decide)).mp (by rw [nI_0]; exact h)))) (fun h => kf (Nat.pos_of_ne_zero (fun q => h (by rw [q, nI_0]; exact Int32.le_refl _))))
theorem pw_if_lt (hexec : p.tables.exec = Jvm.exec) (hb : c.code = cc) {x : Nat} {off : Int} {tgt : Nat} (hx : x < 2147483648) (hdg : decode cc pc = .ok (.ifCond .lt off, 3)) (ht : (pc : Int) + off = (tgt : Int))
    (kf : W p l e R s m args below meth c H locs cells slots Q (F0 m (pc + 3) ls rest)) : W p l e R s m args below meth c H locs cells slots Q (F0 m pc ls (.int (nI x) :: rest)) :=
  lv_if_lt hexec hb hdg ht (fun h => absurd h (nI_pos hx)) (fun _ => kf)
theorem pw_if_ge (hexec : p.tables.exec = Jvm.exec) (hb : c.code = cc) {x : Nat} {off : Int} {tgt : Nat} (hx : x < 2147483648) (hdg : decode cc pc = .ok (.ifCond .ge off, 3)) (ht : (pc : Int) + off = (tgt : Int))
    (kt : W p l e R s m args below meth c H locs cells slots Q (F0 m tgt ls rest)) : W p l e R s m args below meth c H locs cells slots Q (F0 m pc ls (.int (nI x) :: rest)) :=
  lv_if_ge hexec hb hdg ht (fun _ => kt) (fun h => absurd (nI_pos' hx) h)
theorem pw_ifB_eq (hexec : p.tables.exec = Jvm.exec) (hb : c.code = cc) {P : Prop} [Decidable P] {off : Int} {tgt : Nat} (hdg : decode cc pc = .ok (.ifCond .eq off, 3)) (ht : (pc : Int) + off = (tgt : Int))
    (kt : ¬ P → W p l e R s m args below meth c H locs cells slots Q (F0 m tgt ls rest)) (kf : P → W p l e R s m args below meth c H locs cells slots Q (F0 m (pc + 3) ls rest)) : W p l e R s m args below meth c H locs cells slots Q (F0 m pc ls (.int (if P then 1 else 0) :: rest)) := by
  by_cases h : P
  · rw [if_pos h]; exact lv_if_eq hexec hb hdg ht (fun h => absurd h (by decide)) (fun _ => kf h)
  · rw [if_neg h]; exact lv_if_eq hexec hb hdg ht (fun _ => kt h) (fun h => absurd rfl h)
theorem pw_ifB_ne (hexec : p.tables.exec = Jvm.exec) (hb : c.code = cc) {P : Prop} [Decidable P] {off : Int} {tgt : Nat} (hdg : decode cc pc = .ok (.ifCond .ne off, 3)) (ht : (pc : Int) + off = (tgt : Int))
    (kt : P → W p l e R s m args below meth c H locs cells slots Q (F0 m tgt ls rest)) (kf : ¬ P → W p l e R s m args below meth c H locs cells slots Q (F0 m (pc + 3) ls rest)) : W p l e R s m args below meth c H locs cells slots Q (F0 m pc ls (.int (if P then 1 else 0) :: rest)) := by
  by_cases h : P
  · rw [if_pos h]; exact lv_if_ne hexec hb hdg ht (fun _ => kt h) (fun h => absurd h (by decide))
  · rw [if_neg h]; exact lv_if_ne hexec hb hdg ht (fun h => absurd rfl h) (fun _ => kf h)
end PWR
theorem pw_inc (a k : Nat) : nI a + Int32.ofInt (k : Int) = nI (a + k) := nI_add a k
theorem pw_n1 : nI 1 = 1 := by decide
theorem pw_dec (x : Int32) : x + Int32.ofInt (-1) = x - 1 := by
  rw [show Int32.ofInt (-1) = -1 from rfl, Int32.sub_eq_add_neg]
theorem pw_m1lt {k p : Nat} (hk : k < 2147483648) (hp : p < 2147483648) : nI k - 1 < nI p ↔ k < p + 1 := by
  rw [Int32.lt_iff_toInt_lt, nI_toInt hp]
  cases k with
  | zero => rw [nI_0]; simp; omega
  | succ k => rw [nI_pred, nI_toInt (by omega)]; omega
theorem pw_m1neg {k : Nat} (hk : k < 2147483648) : nI k - 1 < 0 ↔ k = 0 := by
  rw [← nI_0, pw_m1lt hk (by decide)]; omega
theorem pw_min {a b : Nat} (ha : a < 2147483648) (hb : b < 2147483648) : (if nI b < nI a then nI b else nI a) = nI (min a b) := by
  by_cases h : b < a
  · rw [if_pos ((pw_ltN hb ha).mpr h), Nat.min_eq_right (by omega)]
  · rw [if_neg (fun q => h ((pw_ltN hb ha).mp q)), Nat.min_eq_left (by omega)]
theorem pw_top {p : Program} {l : Launch} {e : Env} {R : Room} {s : State} {m : MethodId} {args : Array Value} {below : List Frame} {meth : Method} {c : Code} {H : Heap} {locs : List Loc} {cells slots : Nat} {Q : State → Prop} {pc : Nat} {ls : Array Slot} {rest : List Value} {x y : Int32} (h : x = y)
    (k : W p l e R s m args below meth c H locs cells slots Q (F0 m pc ls (.int y :: rest))) : W p l e R s m args below meth c H locs cells slots Q (F0 m pc ls (.int x :: rest)) := by rw [h]; exact k
/-- a prefix of g laid into f from q on -/
def putF (f : Nat → Int32) (q : Nat) (g : Nat → Int32) (k : Nat) : Nat → Int32 := fun j => if q ≤ j ∧ j < q + k then g (j - q) else f j
theorem putF_0 (f : Nat → Int32) (q : Nat) (g : Nat → Int32) : putF f q g 0 = f := by funext j; unfold putF; rw [if_neg (by omega)]
theorem putF_s (f : Nat → Int32) (q : Nat) (g : Nat → Int32) (i : Nat) : upd (putF f q g i) (q + i) (g i) = putF f q g (i + 1) := by
  funext j; unfold putF upd; simp only
  by_cases h : j = q + i
  · subst h; rw [if_pos rfl, if_pos (by omega), show q + i - q = i by omega]
  · rw [if_neg h]
    by_cases h2 : q ≤ j ∧ j < q + i
    · rw [if_pos h2, if_pos (by omega)]
    · rw [if_neg h2, if_neg (by omega)]
/-- room for k things made at q -/
def opn (f : Nat → Int32) (q k n : Nat) : Nat → Int32 := fun j => if q + k ≤ j ∧ j < n + k then f (j - k) else f j
theorem opn_e (f : Nat → Int32) (q k n : Nat) (h : n ≤ q) : opn f q k n = f := by funext j; unfold opn; rw [if_neg (by omega)]
theorem opn_s (f : Nat → Int32) (q r k n : Nat) (h : q + (r + 1) ≤ n) (hk : 0 < k ∨ True) : upd (opn f (q + (r + 1)) k n) (q + r + k) (opn f (q + (r + 1)) k n (q + r)) = opn f (q + r) k n := by
  funext j; unfold opn upd; simp only
  by_cases h1 : j = q + r + k
  · subst h1; rw [if_pos rfl, if_neg (by omega), if_pos (by omega), Nat.add_sub_cancel]
  · rw [if_neg h1]
    by_cases h2 : q + (r + 1) + k ≤ j ∧ j < n + k
    · rw [if_pos h2, if_pos (by omega)]
    · rw [if_neg h2, if_neg (by omega)]
/-- the thing at q taken out, the ones behind it moved up to (not with) i -/
def clsF (f : Nat → Int32) (q i : Nat) : Nat → Int32 := fun j => if q ≤ j ∧ j + 1 < i then f (j + 1) else f j
theorem clsF_0 (f : Nat → Int32) (q i : Nat) (h : i ≤ q + 1) : clsF f q i = f := by funext j; unfold clsF; rw [if_neg (by omega)]
theorem clsF_s (f : Nat → Int32) (q i : Nat) (h : q < i) : upd (clsF f q i) (i - 1) (clsF f q i i) = clsF f q (i + 1) := by
  funext j; unfold clsF upd; simp only
  by_cases h1 : j = i - 1
  · subst h1; rw [if_pos rfl, if_neg (by omega), if_pos (by omega), show i - 1 + 1 = i by omega]
  · rw [if_neg h1]
    by_cases h2 : q ≤ j ∧ j + 1 < i
    · rw [if_pos h2, if_pos (by omega)]
    · rw [if_neg h2, if_neg (by omega)]
def remF (x d : Int32) : Int32 := x - x / d * d
/-- the place of the first thing of a name, or of the last one -/
def plc (f : Nat → Int32) (nm la : Int32) : Nat → Int32
  | 0 => -1
  | k + 1 => if remF (f k) (nI 10) = nm ∧ (¬ la = 0 ∨ plc f nm la k = -1) then nI k else plc f nm la k
theorem plc_stop {f : Nat → Int32} {nm la : Int32} (hl : la = 0) {i : Nat} (h : ¬ plc f nm la i = -1) : ∀ r, plc f nm la (i + r) = plc f nm la i
  | 0 => rfl
  | r + 1 => by
    have ih := plc_stop hl h r
    rw [← Nat.add_assoc]
    show (if _ then _ else _) = _
    rw [if_neg (fun q => q.2.elim (fun z => z hl) (fun z => h (by rw [← ih]; exact z))), ih]
/-- a row's number -/
def smF (f : Nat → Int32) : Nat → Int32
  | 0 => nI 7
  | k + 1 => remF (nI 31 * smF f k + f k) 1000003
/-- turned round up to i at both ends -/
def turI (f : Nat → Int32) (n i : Nat) : Nat → Int32 := fun j => if j < n ∧ (j < i ∨ n - 1 - j < i) then f (n - 1 - j) else f j
def turF (f : Nat → Int32) (n : Nat) : Nat → Int32 := fun j => if j < n then f (n - 1 - j) else f j
theorem turI_0 (f : Nat → Int32) (n : Nat) : turI f n 0 = f := by funext j; unfold turI; rw [if_neg (by omega)]
theorem turI_e (f : Nat → Int32) (n : Nat) : turI f n (n / 2) = turF f n := by
  funext j; unfold turI turF
  by_cases h : j < n
  · rw [if_pos h]
    by_cases h2 : j < n / 2 ∨ n - 1 - j < n / 2
    · rw [if_pos ⟨h, h2⟩]
    · rw [if_neg (fun q => h2 q.2), show n - 1 - j = j by omega]
  · rw [if_neg h, if_neg (fun q => h q.1)]
theorem turI_s (f : Nat → Int32) (n i : Nat) (h : i < n / 2) : upd (upd (turI f n i) (n - 1 - i) (turI f n i i)) i (turI f n i (n - 1 - i)) = turI f n (i + 1) := by
  funext j; unfold turI upd; simp only
  by_cases h1 : j = i
  · subst h1; rw [if_pos rfl, if_neg (by omega), if_pos (by omega)]
  · rw [if_neg h1]
    by_cases h2 : j = n - 1 - i
    · subst h2; rw [if_pos rfl, if_neg (by omega), if_pos (by omega), show n - 1 - (n - 1 - i) = i by omega]
    · rw [if_neg h2]
      by_cases h3 : j < n ∧ (j < i ∨ n - 1 - j < i)
      · rw [if_pos h3, if_pos (by omega)]
      · rw [if_neg h3, if_neg (by omega)]
/-- of each name the first thing alone: how many are kept, the names met (a bit each), the row -/
def prF (f : Nat → Int32) : Nat → Nat × Int32 × (Nat → Int32)
  | 0 => (0, nI 0, f)
  | i + 1 => if ((prF f i).2.1 &&& (nI 1 <<< (remF (f i) (nI 10) &&& 31))) = 0 then ((prF f i).1 + 1, (prF f i).2.1 ||| (nI 1 <<< (remF (f i) (nI 10) &&& 31)), upd (prF f i).2.2 (prF f i).1 (f i)) else prF f i
theorem prF_le (f : Nat → Int32) : ∀ i, (prF f i).1 ≤ i ∧ ∀ j, i ≤ j → (prF f i).2.2 j = f j
  | 0 => ⟨Nat.le_refl 0, fun _ _ => rfl⟩
  | i + 1 => by
    obtain ⟨h1, h2⟩ := prF_le f i
    unfold prF
    split
    · refine ⟨by show _ + 1 ≤ _; omega, fun j hj => ?_⟩
      show upd _ _ _ j = _
      unfold upd
      rw [if_neg (by omega), h2 j (by omega)]
    · exact ⟨by omega, fun j hj => h2 j (by omega)⟩
theorem putF_s0 (f g : Nat → Int32) (i : Nat) : upd (putF f 0 g i) i (g i) = putF f 0 g (i + 1) := by
  have h := putF_s f 0 g i
  rw [Nat.zero_add] at h
  exact h
def putG (F : Nat → Int32) (p : Nat) (g : Nat → Int32) (lo i : Nat) : Nat → Int32 := fun j => if p + lo ≤ j ∧ j < p + i then g (j - p) else F j
theorem putG_0 (F : Nat → Int32) (p : Nat) (g : Nat → Int32) (lo : Nat) : putG F p g lo lo = F := by funext j; unfold putG; rw [if_neg (by omega)]
theorem putG_s (F : Nat → Int32) (p : Nat) (g : Nat → Int32) (lo i : Nat) (h : lo ≤ i) : upd (putG F p g lo i) (p + i) (g i) = putG F p g lo (i + 1) := by
  funext j; unfold putG upd; simp only
  by_cases h1 : j = p + i
  · subst h1; rw [if_pos rfl, if_pos (by omega), show p + i - p = i by omega]
  · rw [if_neg h1]
    by_cases h2 : p + lo ≤ j ∧ j < p + i
    · rw [if_pos h2, if_pos (by omega)]
    · rw [if_neg h2, if_neg (by omega)]
def w2F (F f g : Nat → Int32) (p k : Nat) : Nat → Int32 := fun j => if 2 * k ≤ j ∧ j < 2 * p then (if j % 2 = 0 then f (j / 2) else g (j / 2)) else F j
theorem w2F_e (F f g : Nat → Int32) (p : Nat) : w2F F f g p p = F := by funext j; unfold w2F; rw [if_neg (by omega)]
theorem w2F_s (F f g : Nat → Int32) (p k : Nat) (h : k < p) (hF : F k = f k) : upd (upd (w2F F f g p (k + 1)) (2 * k + 1) (g k)) (2 * k) (upd (w2F F f g p (k + 1)) (2 * k + 1) (g k) k) = w2F F f g p k := by
  have e : upd (w2F F f g p (k + 1)) (2 * k + 1) (g k) k = f k := by
    unfold upd w2F
    rw [if_neg (by omega), if_neg (by omega), hF]
  rw [e]
  funext j; unfold w2F upd; simp only
  by_cases h1 : j = 2 * k
  · subst h1; rw [if_pos rfl, if_pos (by omega), if_pos (by omega), show 2 * k / 2 = k by omega]
  · rw [if_neg h1]
    by_cases h2 : j = 2 * k + 1
    · subst h2; rw [if_pos rfl, if_pos (by omega), if_neg (by omega), show (2 * k + 1) / 2 = k by omega]
    · rw [if_neg h2]
      by_cases h3 : 2 * (k + 1) ≤ j ∧ j < 2 * p
      · rw [if_pos h3, if_pos (show 2 * k ≤ j ∧ j < 2 * p by omega)]
      · rw [if_neg h3, if_neg (by omega)]
def wvF (f g : Nat → Int32) (n m : Nat) : Nat → Int32 := w2F (putG (opn f (min n m) m n) (min n m) g (min n m) m) f g (min n m) 0
theorem pw_ifnull {p : Program} {l : Launch} {e : Env} {R : Room} {s : State} {m : MethodId} {args : Array Value} {below : List Frame} {meth : Method} {c : Code} {H : Heap} {locs : List Loc} {cells slots : Nat} {Q : State → Prop} {pc : Nat} {ls : Array Slot} {rest : List Value} {cc : ByteArray} (hexec : p.tables.exec = Jvm.exec) (hb : c.code = cc) {r : Option Nat} {off : Int} {tgt : Nat} (hdg : decode cc pc = .ok (.ifnull off, 3)) (ht : (pc : Int) + off = (tgt : Int))
    (kt : r = none → W p l e R s m args below meth c H locs cells slots Q (F0 m tgt ls rest)) (kf : ¬ r = none → W p l e R s m args below meth c H locs cells slots Q (F0 m (pc + 3) ls rest)) : W p l e R s m args below meth c H locs cells slots Q (F0 m pc ls (va_rf r :: rest)) := by
  cases r with
  | none => exact lv_ifnullN hexec hb hdg ht (kt rfl)
  | some x => exact lv_ifnull hexec hb hdg (kf (fun h => by cases h))
end
section
theorem hi_X1_hasThingAt_1 : ∀ w ∈ u_ws RX1 TX1 3, w ∈ wsX1_hasThingAt := by decide +kernel
theorem hf_X1_hasThingAt_15 : Cond.fieldLink RX1 15 "Pegrow$Row" "length" "I" ∈ wsX1_hasThingAt := by decide +kernel
set_option maxHeartbeats 4000000 in
set_option maxRecDepth 100000 in
theorem c_hasThingAt (l : Launch) (D : va_G) (cI cP cR : ClassId) (o a n : Nat) (ch : Int32) (f : Nat → Int32) (q : Int32) : pw_Mp l yX1_hasThingAt wsX1_hasThingAt ({ frames := 0, cells := 0, slots := 0, locals := 0 } : Room) D cI cP cR [.ref o, .int (q)] ([(o, .inr (1, [.ref a, .int (nI n), .int (ch)])), (a, .inl (cI, 60, .inl (f)))]) (.int (if 0 ≤ q ∧ q < nI n then 1 else 0)) := by
  refine pw_ofp (cc := cX1_hasThingAt) (maxL := 2) (ret := (some .boolean)) (own := RX1) (by decide +kernel) rfl rfl (Nat.le_of_ble_eq_true rfl) ?_
  intro p_ e_ s m bel meth cd hE hK hP hD ls hl
  obtain ⟨hx, hb, hr, hml, hown, hts, hlocks⟩ := hE
  have hNW := hK.2
  have hl : lv_has ls 2 [(0, .ref o), (1, .int (q))] := hl
  refine lv_iload_n hx hb dX1_hasThingAt_0 rfl (lv_at hl 1 rfl) ?_
  refine lv_if_lt (tgt := 16) hx hb dX1_hasThingAt_1 (by decide) (fun c_1 => ?_) (fun c_1 => ?_)
  · have _h := c_1
    refine lv_iconst (v := nI 0) hx hb dX1_hasThingAt_16 (by decide) ?_
    exact pw_piret hx hb hr (rfl) hlocks dX1_hasThingAt_17 (by rw [if_neg (fun h => by first | exact absurd h.1 (Int32.not_le.mpr (by assumption)) | exact absurd h.2 (Int32.not_lt.mpr (by assumption)))]; rfl)
  · have _h := c_1
    refine lv_iload_n hx hb dX1_hasThingAt_4 rfl (lv_at hl 1 rfl) ?_
    refine lv_aload_n hx hb dX1_hasThingAt_5 rfl (lv_at hl 0 rfl) ?_
    refine va_get (D := D) (ci := 1) (v := .int (nI n)) (C := RX1) (T := TX1) (N := 3) hx hb hts hi_X1_hasThingAt_1 hown hK.1 hP 0 rfl rfl 1 (by decide) (hts _ hf_X1_hasThingAt_15) (fun _ h9 => h9) rfl dX1_hasThingAt_6 ?_
    refine lv_icmp_ge (tgt := 16) hx hb dX1_hasThingAt_9 (by decide) (fun c_2 => ?_) (fun c_2 => ?_)
    · have _h := c_2
      refine lv_iconst (v := nI 0) hx hb dX1_hasThingAt_16 (by decide) ?_
      exact pw_piret hx hb hr (rfl) hlocks dX1_hasThingAt_17 (by rw [if_neg (fun h => by first | exact absurd h.1 (Int32.not_le.mpr (by assumption)) | exact absurd h.2 (Int32.not_lt.mpr (by assumption)))]; rfl)
    · have _h := c_2
      refine lv_iconst (v := nI 1) hx hb dX1_hasThingAt_12 (by decide) ?_
      refine lv_goto (tgt := 17) hx hb dX1_hasThingAt_13 (by decide) ?_
      exact pw_piret hx hb hr (rfl) hlocks dX1_hasThingAt_17 (by rw [if_pos ⟨Int32.not_lt.mp (by assumption), Int32.not_le.mp (by assumption)⟩]; rfl)
theorem hi_X1_canPutAt_1 : ∀ w ∈ u_ws RX1 TX1 3, w ∈ wsX1_canPutAt := by decide +kernel
theorem hf_X1_canPutAt_15 : Cond.fieldLink RX1 15 "Pegrow$Row" "length" "I" ∈ wsX1_canPutAt := by decide +kernel
set_option maxHeartbeats 4000000 in
set_option maxRecDepth 100000 in
theorem c_canPutAt (l : Launch) (D : va_G) (cI cP cR : ClassId) (o a n : Nat) (ch : Int32) (f : Nat → Int32) (q : Int32) : pw_Mp l yX1_canPutAt wsX1_canPutAt ({ frames := 0, cells := 0, slots := 0, locals := 0 } : Room) D cI cP cR [.ref o, .int (q)] ([(o, .inr (1, [.ref a, .int (nI n), .int (ch)])), (a, .inl (cI, 60, .inl (f)))]) (.int (if 0 ≤ q ∧ q ≤ nI n then 1 else 0)) := by
  refine pw_ofp (cc := cX1_canPutAt) (maxL := 2) (ret := (some .boolean)) (own := RX1) (by decide +kernel) rfl rfl (Nat.le_of_ble_eq_true rfl) ?_
  intro p_ e_ s m bel meth cd hE hK hP hD ls hl
  obtain ⟨hx, hb, hr, hml, hown, hts, hlocks⟩ := hE
  have hNW := hK.2
  have hl : lv_has ls 2 [(0, .ref o), (1, .int (q))] := hl
  refine lv_iload_n hx hb dX1_canPutAt_0 rfl (lv_at hl 1 rfl) ?_
  refine lv_if_lt (tgt := 16) hx hb dX1_canPutAt_1 (by decide) (fun c_1 => ?_) (fun c_1 => ?_)
  · have _h := c_1
    refine lv_iconst (v := nI 0) hx hb dX1_canPutAt_16 (by decide) ?_
    exact pw_piret hx hb hr (rfl) hlocks dX1_canPutAt_17 (by rw [if_neg (fun h => by first | exact absurd h.1 (Int32.not_le.mpr (by assumption)) | exact absurd h.2 (Int32.not_le.mpr (by assumption)))]; rfl)
  · have _h := c_1
    refine lv_iload_n hx hb dX1_canPutAt_4 rfl (lv_at hl 1 rfl) ?_
    refine lv_aload_n hx hb dX1_canPutAt_5 rfl (lv_at hl 0 rfl) ?_
    refine va_get (D := D) (ci := 1) (v := .int (nI n)) (C := RX1) (T := TX1) (N := 3) hx hb hts hi_X1_canPutAt_1 hown hK.1 hP 0 rfl rfl 1 (by decide) (hts _ hf_X1_canPutAt_15) (fun _ h9 => h9) rfl dX1_canPutAt_6 ?_
    refine lv_icmp_gt (tgt := 16) hx hb dX1_canPutAt_9 (by decide) (fun c_2 => ?_) (fun c_2 => ?_)
    · have _h := c_2
      refine lv_iconst (v := nI 0) hx hb dX1_canPutAt_16 (by decide) ?_
      exact pw_piret hx hb hr (rfl) hlocks dX1_canPutAt_17 (by rw [if_neg (fun h => by first | exact absurd h.1 (Int32.not_le.mpr (by assumption)) | exact absurd h.2 (Int32.not_le.mpr (by assumption)))]; rfl)
    · have _h := c_2
      refine lv_iconst (v := nI 1) hx hb dX1_canPutAt_12 (by decide) ?_
      refine lv_goto (tgt := 17) hx hb dX1_canPutAt_13 (by decide) ?_
      exact pw_piret hx hb hr (rfl) hlocks dX1_canPutAt_17 (by rw [if_pos ⟨Int32.not_lt.mp (by assumption), Int32.not_lt.mp (by assumption)⟩]; rfl)
theorem hi_X1_hasRoomFor_1 : ∀ w ∈ u_ws RX1 TX1 3, w ∈ wsX1_hasRoomFor := by decide +kernel
theorem hf_X1_hasRoomFor_15 : Cond.fieldLink RX1 15 "Pegrow$Row" "length" "I" ∈ wsX1_hasRoomFor := by decide +kernel
set_option maxHeartbeats 4000000 in
set_option maxRecDepth 100000 in
theorem c_hasRoomFor (l : Launch) (D : va_G) (cI cP cR : ClassId) (o a n : Nat) (ch : Int32) (f : Nat → Int32) (k : Nat) (hn : n ≤ 60) (hk : k ≤ 60) : pw_Mp l yX1_hasRoomFor wsX1_hasRoomFor ({ frames := 0, cells := 0, slots := 0, locals := 0 } : Room) D cI cP cR [.ref o, .int (nI k)] ([(o, .inr (1, [.ref a, .int (nI n), .int (ch)])), (a, .inl (cI, 60, .inl (f)))]) (.int (if n + k ≤ 60 then 1 else 0)) := by
  refine pw_ofp (cc := cX1_hasRoomFor) (maxL := 2) (ret := (some .boolean)) (own := RX1) (by decide +kernel) rfl rfl (Nat.le_of_ble_eq_true rfl) ?_
  intro p_ e_ s m bel meth cd hE hK hP hD ls hl
  obtain ⟨hx, hb, hr, hml, hown, hts, hlocks⟩ := hE
  have hNW := hK.2
  have hl : lv_has ls 2 [(0, .ref o), (1, .int (nI k))] := hl
  refine lv_aload_n hx hb dX1_hasRoomFor_0 rfl (lv_at hl 0 rfl) ?_
  refine va_get (D := D) (ci := 1) (v := .int (nI n)) (C := RX1) (T := TX1) (N := 3) hx hb hts hi_X1_hasRoomFor_1 hown hK.1 hP 0 rfl rfl 1 (by decide) (hts _ hf_X1_hasRoomFor_15) (fun _ h9 => h9) rfl dX1_hasRoomFor_1 ?_
  refine lv_iload_n hx hb dX1_hasRoomFor_4 rfl (lv_at hl 1 rfl) ?_
  refine pw_iadd hx hb dX1_hasRoomFor_5 ?_
  refine lv_bipush (v := nI 60) hx hb dX1_hasRoomFor_6 (by decide) ?_
  refine pw_icmp_gt (tgt := 15) hx hb (by omega) (by omega) dX1_hasRoomFor_8 (by decide) (fun c_1 => ?_) (fun c_1 => ?_)
  · have _h := c_1
    refine lv_iconst (v := nI 0) hx hb dX1_hasRoomFor_15 (by decide) ?_
    exact pw_piret hx hb hr (rfl) hlocks dX1_hasRoomFor_16 (by rw [if_neg (by omega)]; rfl)
  · have _h := c_1
    refine lv_iconst (v := nI 1) hx hb dX1_hasRoomFor_11 (by decide) ?_
    refine lv_goto (tgt := 16) hx hb dX1_hasRoomFor_12 (by decide) ?_
    exact pw_piret hx hb hr (rfl) hlocks dX1_hasRoomFor_16 (by rw [if_pos (by omega)]; rfl)
theorem hi_X1_thingAt_1 : ∀ w ∈ u_ws RX1 TX1 3, w ∈ wsX1_thingAt := by decide +kernel
theorem hf_X1_thingAt_9 : Cond.fieldLink RX1 9 "Pegrow$Row" "things" "[I" ∈ wsX1_thingAt := by decide +kernel
set_option maxHeartbeats 4000000 in
set_option maxRecDepth 100000 in
theorem c_thingAt (l : Launch) (D : va_G) (cI cP cR : ClassId) (o a n : Nat) (ch : Int32) (f : Nat → Int32) (j : Nat) (hj : j < 60) : pw_Mp l yX1_thingAt wsX1_thingAt ({ frames := 0, cells := 0, slots := 0, locals := 0 } : Room) D cI cP cR [.ref o, .int (nI j)] ([(o, .inr (1, [.ref a, .int (nI n), .int (ch)])), (a, .inl (cI, 60, .inl (f)))]) (.int (f j)) := by
  refine pw_ofp (cc := cX1_thingAt) (maxL := 2) (ret := (some .int)) (own := RX1) (by decide +kernel) rfl rfl (Nat.le_of_ble_eq_true rfl) ?_
  intro p_ e_ s m bel meth cd hE hK hP hD ls hl
  obtain ⟨hx, hb, hr, hml, hown, hts, hlocks⟩ := hE
  have hNW := hK.2
  have hl : lv_has ls 2 [(0, .ref o), (1, .int (nI j))] := hl
  refine lv_aload_n hx hb dX1_thingAt_0 rfl (lv_at hl 0 rfl) ?_
  refine va_get (D := D) (ci := 1) (v := .ref a) (C := RX1) (T := TX1) (N := 3) hx hb hts hi_X1_thingAt_1 hown hK.1 hP 0 rfl rfl 0 (by decide) (hts _ hf_X1_thingAt_9) (fun _ h9 => h9) rfl dX1_thingAt_1 ?_
  refine lv_iload_n hx hb dX1_thingAt_4 rfl (lv_at hl 1 rfl) ?_
  refine pw_iald hx hb hK.1 hP 1 0 rfl rfl (by decide) (by omega) dX1_thingAt_5 ?_
  exact pw_piret hx hb hr (rfl) hlocks dX1_thingAt_6 (rfl)
theorem hi_X1_layAt_1 : ∀ w ∈ u_ws RX1 TX1 3, w ∈ wsX1_layAt := by decide +kernel
theorem hf_X1_layAt_9 : Cond.fieldLink RX1 9 "Pegrow$Row" "things" "[I" ∈ wsX1_layAt := by decide +kernel
set_option maxHeartbeats 4000000 in
set_option maxRecDepth 100000 in
theorem c_layAt (l : Launch) (D : va_G) (cI cP cR : ClassId) (o a n : Nat) (ch : Int32) (f : Nat → Int32) (j : Nat) (x : Int32) (hj : j < 60) : pw_Mm l yX1_layAt wsX1_layAt ({ frames := 0, cells := 0, slots := 0, locals := 0 } : Room) D cI cP cR [.ref o, .int (nI j), .int (x)] ([(o, .inr (1, [.ref a, .int (nI n), .int (ch)])), (a, .inl (cI, 60, .inl (f)))]) (fun v w => v = some (.int (f j)) ∧ w = [(o, .inr (1, [.ref a, .int (nI n), .int (ch)])), (a, .inl (cI, 60, .inl (upd f j x)))]) := by
  refine pw_ofm (cc := cX1_layAt) (maxL := 4) (ret := (some .int)) (own := RX1) (by decide +kernel) rfl rfl (Nat.le_of_ble_eq_true rfl) ?_
  intro p_ e_ s m bel meth cd A hE hK hP hD hA hS ls hl
  obtain ⟨hx, hb, hr, hml, hown, hts, hlocks⟩ := hE
  have hNW := hK.2
  have hl : lv_has ls 4 [(0, .ref o), (1, .int (nI j)), (2, .int (x))] := hl
  refine lv_aload_n hx hb dX1_layAt_0 rfl (lv_at hl 0 rfl) ?_
  refine va_get (D := D) (ci := 1) (v := .ref a) (C := RX1) (T := TX1) (N := 3) hx hb hts hi_X1_layAt_1 hown hK.1 hP 0 rfl rfl 0 (by decide) (hts _ hf_X1_layAt_9) (fun _ h9 => h9) rfl dX1_layAt_1 ?_
  refine lv_iload_n hx hb dX1_layAt_4 rfl (lv_at hl 1 rfl) ?_
  refine pw_iald hx hb hK.1 hP 1 0 rfl rfl (by decide) (by omega) dX1_layAt_5 ?_
  refine lv_istore_n (lv' := [(3, .int (f j)), (0, .ref o), (1, .int (nI j)), (2, .int (x))]) hx hb dX1_layAt_6 rfl hl (by decide) rfl (fun ls hl => ?_)
  refine lv_aload_n hx hb dX1_layAt_7 rfl (lv_at hl 1 rfl) ?_
  refine va_get (D := D) (ci := 1) (v := .ref a) (C := RX1) (T := TX1) (N := 3) hx hb hts hi_X1_layAt_1 hown hK.1 hP 0 rfl rfl 0 (by decide) (hts _ hf_X1_layAt_9) (fun _ h9 => h9) rfl dX1_layAt_8 ?_
  refine lv_iload_n hx hb dX1_layAt_11 rfl (lv_at hl 2 rfl) ?_
  refine lv_iload_n hx hb dX1_layAt_12 rfl (lv_at hl 3 rfl) ?_
  refine pw_iast hx hb hK.1 hP hD hS 1 0 rfl rfl (by decide) (by omega) dX1_layAt_13 (fun H locs hP hD hS => ?_)
  have hP : va_P D vwCl ([(o, .inr (1, [.ref a, .int (nI n), .int (ch)])), (a, .inl (cI, 60, .inl (upd f j x)))]) H := hP
  have hD : va_D A ([(o, .inr (1, [.ref a, .int (nI n), .int (ch)])), (a, .inl (cI, 60, .inl (upd f j x)))]) := hD
  refine lv_iload_n hx hb dX1_layAt_14 rfl (lv_at hl 0 rfl) ?_
  exact pw_iret hx hb hr (rfl) hlocks dX1_layAt_15 hS hP hD (⟨rfl, rfl⟩)
theorem hi_X1_openAt_1 : ∀ w ∈ u_ws RX1 TX1 3, w ∈ wsX1_openAt := by decide +kernel
theorem hf_X1_openAt_9 : Cond.fieldLink RX1 9 "Pegrow$Row" "things" "[I" ∈ wsX1_openAt := by decide +kernel
theorem hf_X1_openAt_15 : Cond.fieldLink RX1 15 "Pegrow$Row" "length" "I" ∈ wsX1_openAt := by decide +kernel
theorem hf_X1_openAt_27 : Cond.fieldLink RX1 27 "Pegrow$Row" "changes" "I" ∈ wsX1_openAt := by decide +kernel
set_option maxHeartbeats 4000000 in
set_option maxRecDepth 100000 in
theorem c_openAt (l : Launch) (D : va_G) (cI cP cR : ClassId) (o a n : Nat) (ch : Int32) (f : Nat → Int32) (q k : Nat) (hn : n ≤ 60) (hq : q ≤ n) (hk : n + k ≤ 60) : pw_Mm l yX1_openAt wsX1_openAt ({ frames := 0, cells := 0, slots := 0, locals := 0 } : Room) D cI cP cR [.ref o, .int (nI q), .int (nI k)] ([(o, .inr (1, [.ref a, .int (nI n), .int (ch)])), (a, .inl (cI, 60, .inl (f)))]) (fun v w => v = none ∧ w = [(o, .inr (1, [.ref a, .int (nI (n + k)), .int (ch + nI 1)])), (a, .inl (cI, 60, .inl (opn f q k n)))]) := by
  refine pw_ofm (cc := cX1_openAt) (maxL := 4) (ret := none) (own := RX1) (by decide +kernel) rfl rfl (Nat.le_of_ble_eq_true rfl) ?_
  intro p_ e_ s m bel meth cd A hE hK hP hD hA hS ls hl
  obtain ⟨hx, hb, hr, hml, hown, hts, hlocks⟩ := hE
  have hNW := hK.2
  have hl : lv_has ls 4 [(0, .ref o), (1, .int (nI q)), (2, .int (nI k))] := hl
  refine lv_aload_n hx hb dX1_openAt_0 rfl (lv_at hl 0 rfl) ?_
  refine va_get (D := D) (ci := 1) (v := .int (nI n)) (C := RX1) (T := TX1) (N := 3) hx hb hts hi_X1_openAt_1 hown hK.1 hP 0 rfl rfl 1 (by decide) (hts _ hf_X1_openAt_15) (fun _ h9 => h9) rfl dX1_openAt_1 ?_
  refine lv_iconst (v := nI 1) hx hb dX1_openAt_4 (by decide) ?_
  refine lv_isub hx hb dX1_openAt_5 ?_
  refine lv_istore_n (lv' := [(3, .int ((nI n) - (nI 1))), (0, .ref o), (1, .int (nI q)), (2, .int (nI k))]) hx hb dX1_openAt_6 rfl hl (by decide) rfl (fun ls hl => ?_)
  have loop : ∀ (r : Nat), q + r ≤ n → ∀ (x3 : Int32), x3 = nI (q + r) - 1 → ∀ (H : Heap) (locs : List Loc), va_P D vwCl ([(o, .inr (1, [.ref a, .int (nI n), .int (ch)])), (a, .inl (cI, 60, .inl (opn f (q + r) k n)))]) H → va_D A ([(o, .inr (1, [.ref a, .int (nI n), .int (ch)])), (a, .inl (cI, 60, .inl (opn f (q + r) k n)))]) → va_S A s.heap H locs → ∀ ls : Array Slot, lv_has ls 4 [(3, .int (x3)), (0, .ref o), (1, .int (nI q)), (2, .int (nI k))] → W p_ l e_ ({ frames := 0, cells := 0, slots := 0, locals := 0 } : Room) s m [.ref o, .int (nI q), .int (nI k)].toArray bel meth cd H locs 0 0 (MQ bel (pw_Qm (fun v w => v = none ∧ w = [(o, .inr (1, [.ref a, .int (nI (n + k)), .int (ch + nI 1)])), (a, .inl (cI, 60, .inl (opn f q k n)))]) D A) [.ref o, .int (nI q), .int (nI k)].toArray s 0 0 A) (F0 m 7 ls []) := by
    intro r
    induction r with
    | zero =>
      intro hr1 x3 ex3 H locs hP hD hS ls hl
      subst ex3
      refine lv_iload_n hx hb dX1_openAt_7 rfl (lv_at hl 0 rfl) ?_
      refine lv_iload_n hx hb dX1_openAt_8 rfl (lv_at hl 2 rfl) ?_
      refine lv_icmp_lt (tgt := 32) hx hb dX1_openAt_9 (by decide) (fun c_1 => ?_) (fun c_1 => ?_)
      · have _h := c_1
        refine lv_aload_n hx hb dX1_openAt_32 rfl (lv_at hl 1 rfl) ?_
        refine lv_dup hx hb dX1_openAt_33 rfl ?_
        refine va_get (D := D) (ci := 1) (v := .int (nI n)) (C := RX1) (T := TX1) (N := 3) hx hb hts hi_X1_openAt_1 hown hK.1 hP 0 rfl rfl 1 (by decide) (hts _ hf_X1_openAt_15) (fun _ h9 => h9) rfl dX1_openAt_34 ?_
        refine lv_iload_n hx hb dX1_openAt_37 rfl (lv_at hl 3 rfl) ?_
        refine pw_iadd hx hb dX1_openAt_38 ?_
        refine va_put (D := D) (ci := 1) (v := .int (nI (n + k))) (ty := .int) (C := RX1) (T := TX1) (N := 3) hx hb hts hi_X1_openAt_1 tyX1 tyX1_ok nmX1 hown hK.1 hP hD hS 0 rfl rfl 1 (by decide) (hts _ hf_X1_openAt_15) (fun _ h9 => h9) rfl (by decide +kernel) rfl rfl (Nat.le_of_ble_eq_true rfl) dX1_openAt_39 (fun H locs hP hD hS => ?_)
        have hP : va_P D vwCl ([(o, .inr (1, [.ref a, .int (nI (n + k)), .int (ch)])), (a, .inl (cI, 60, .inl (opn f (q + 0) k n)))]) H := hP
        have hD : va_D A ([(o, .inr (1, [.ref a, .int (nI (n + k)), .int (ch)])), (a, .inl (cI, 60, .inl (opn f (q + 0) k n)))]) := hD
        refine lv_aload_n hx hb dX1_openAt_42 rfl (lv_at hl 1 rfl) ?_
        refine lv_dup hx hb dX1_openAt_43 rfl ?_
        refine va_get (D := D) (ci := 1) (v := .int (ch)) (C := RX1) (T := TX1) (N := 3) hx hb hts hi_X1_openAt_1 hown hK.1 hP 0 rfl rfl 2 (by decide) (hts _ hf_X1_openAt_27) (fun _ h9 => h9) rfl dX1_openAt_44 ?_
        refine lv_iconst (v := nI 1) hx hb dX1_openAt_47 (by decide) ?_
        refine lv_iadd hx hb dX1_openAt_48 ?_
        refine va_put (D := D) (ci := 1) (v := .int (ch + (nI 1))) (ty := .int) (C := RX1) (T := TX1) (N := 3) hx hb hts hi_X1_openAt_1 tyX1 tyX1_ok nmX1 hown hK.1 hP hD hS 0 rfl rfl 2 (by decide) (hts _ hf_X1_openAt_27) (fun _ h9 => h9) rfl (by decide +kernel) rfl rfl (Nat.le_of_ble_eq_true rfl) dX1_openAt_49 (fun H locs hP hD hS => ?_)
        have hP : va_P D vwCl ([(o, .inr (1, [.ref a, .int (nI (n + k)), .int (ch + (nI 1))])), (a, .inl (cI, 60, .inl (opn f (q + 0) k n)))]) H := hP
        have hD : va_D A ([(o, .inr (1, [.ref a, .int (nI (n + k)), .int (ch + (nI 1))])), (a, .inl (cI, 60, .inl (opn f (q + 0) k n)))]) := hD
        exact pw_vret hx hb hr hlocks dX1_openAt_52 hS hP hD (⟨rfl, rfl⟩)
      · exact absurd ((pw_m1lt (by omega) (by omega)).mpr (by omega)) c_1
    | succ r ih =>
      intro hr1 x3 ex3 H locs hP hD hS ls hl
      have ex3 : x3 = nI (q + r) := by rw [ex3, ← Nat.add_assoc, nI_pred]
      subst ex3
      refine lv_iload_n hx hb dX1_openAt_7 rfl (lv_at hl 0 rfl) ?_
      refine lv_iload_n hx hb dX1_openAt_8 rfl (lv_at hl 2 rfl) ?_
      refine pw_icmp_lt (tgt := 32) hx hb (by omega) (by omega) dX1_openAt_9 (by decide) (fun c_2 => ?_) (fun c_2 => ?_)
      · exact absurd c_2 (by omega)
      · have _h := c_2
        refine lv_aload_n hx hb dX1_openAt_12 rfl (lv_at hl 1 rfl) ?_
        refine va_get (D := D) (ci := 1) (v := .ref a) (C := RX1) (T := TX1) (N := 3) hx hb hts hi_X1_openAt_1 hown hK.1 hP 0 rfl rfl 0 (by decide) (hts _ hf_X1_openAt_9) (fun _ h9 => h9) rfl dX1_openAt_13 ?_
        refine lv_iload_n hx hb dX1_openAt_16 rfl (lv_at hl 0 rfl) ?_
        refine lv_iload_n hx hb dX1_openAt_17 rfl (lv_at hl 3 rfl) ?_
        refine pw_iadd hx hb dX1_openAt_18 ?_
        refine lv_aload_n hx hb dX1_openAt_19 rfl (lv_at hl 1 rfl) ?_
        refine va_get (D := D) (ci := 1) (v := .ref a) (C := RX1) (T := TX1) (N := 3) hx hb hts hi_X1_openAt_1 hown hK.1 hP 0 rfl rfl 0 (by decide) (hts _ hf_X1_openAt_9) (fun _ h9 => h9) rfl dX1_openAt_20 ?_
        refine lv_iload_n hx hb dX1_openAt_23 rfl (lv_at hl 0 rfl) ?_
        refine pw_iald hx hb hK.1 hP 1 0 rfl rfl (by decide) (by omega) dX1_openAt_24 ?_
        refine pw_iast hx hb hK.1 hP hD hS 1 0 rfl rfl (by decide) (by omega) dX1_openAt_25 (fun H locs hP hD hS => ?_)
        have hP : va_P D vwCl ([(o, .inr (1, [.ref a, .int (nI n), .int (ch)])), (a, .inl (cI, 60, .inl (upd (opn f (q + (r + 1)) k n) ((q + r) + k) ((opn f (q + (r + 1)) k n) (q + r)))))]) H := hP
        have hD : va_D A ([(o, .inr (1, [.ref a, .int (nI n), .int (ch)])), (a, .inl (cI, 60, .inl (upd (opn f (q + (r + 1)) k n) ((q + r) + k) ((opn f (q + (r + 1)) k n) (q + r)))))]) := hD
        refine lv_iinc (v := nI (q + r) + Int32.ofInt (-1)) (lv' := [(3, .int (nI (q + r) + Int32.ofInt (-1))), (0, .ref o), (1, .int (nI q)), (2, .int (nI k))]) hx hb dX1_openAt_26 hl (k := 0) rfl (rfl) (by decide) rfl (fun ls hl => ?_)
        refine lv_goto (tgt := 7) hx hb dX1_openAt_29 (by decide) ?_
        rw [opn_s f q r k n (by omega) (Or.inr trivial)] at hP hD
        exact ih (by omega) _ (pw_dec _) H locs hP hD hS ls hl
  have e0 : opn f (q + (n - q)) k n = f := opn_e f _ k n (by omega)
  exact loop (n - q) (by omega) _ (by rw [show q + (n - q) = n by omega, pw_n1]) s.heap [] (by rw [e0]; exact hP) (by rw [e0]; exact hD) hS ls hl
theorem hi_X1_putAt_1 : ∀ w ∈ u_ws RX1 TX1 3, w ∈ wsX1_putAt := by decide +kernel
theorem hf_X1_putAt_9 : Cond.fieldLink RX1 9 "Pegrow$Row" "things" "[I" ∈ wsX1_putAt := by decide +kernel
set_option maxHeartbeats 4000000 in
set_option maxRecDepth 100000 in
theorem c_putAt (l : Launch) (D : va_G) (cI cP cR : ClassId) (o a n : Nat) (ch : Int32) (f : Nat → Int32) (q : Nat) (x : Int32) (hn : n < 60) (hq : q ≤ n) : pw_Mm l yX1_putAt wsX1_putAt ({ frames := 1, cells := 0, slots := 0, locals := 23 } : Room) D cI cP cR [.ref o, .int (nI q), .int (x)] ([(o, .inr (1, [.ref a, .int (nI n), .int (ch)])), (a, .inl (cI, 60, .inl (f)))]) (fun v w => v = none ∧ w = [(o, .inr (1, [.ref a, .int (nI (n + 1)), .int (ch + nI 1)])), (a, .inl (cI, 60, .inl (upd (opn f q 1 n) q x)))]) := by
  refine pw_ofm (cc := cX1_putAt) (maxL := 3) (ret := none) (own := RX1) (by decide +kernel) rfl rfl (Nat.le_of_ble_eq_true rfl) ?_
  intro p_ e_ s m bel meth cd A hE hK hP hD hA hS ls hl
  obtain ⟨hx, hb, hr, hml, hown, hts, hlocks⟩ := hE
  have hNW := hK.2
  have hl : lv_has ls 3 [(0, .ref o), (1, .int (nI q)), (2, .int (x))] := hl
  refine lv_aload_n hx hb dX1_putAt_0 rfl (lv_at hl 0 rfl) ?_
  refine lv_iload_n hx hb dX1_putAt_1 rfl (lv_at hl 1 rfl) ?_
  refine lv_iconst (v := nI 1) hx hb dX1_putAt_2 (by decide) ?_
  -- c_openAt
  refine pw_cVm (As := [.int (nI q), .int (nI 1)]) (rest := []) (wc := [(o, .inr (1, [.ref a, .int (nI n), .int (ch)])), (a, .inl (cI, 60, .inl (f)))]) (wr := []) ⟨hx, hb, hml, hown, hts⟩ (c_openAt l D cI cP cR o a n ch f q 1 (by omega) hq (by omega)) (cwV 2 hts gX1_putAt_X1_openAt rfl rfl rfl (by decide +kernel) ⟨Nat.le_of_ble_eq_true rfl, Nat.le_of_ble_eq_true rfl⟩) hK hP hD hS hA [0, 1] [] rfl rfl (by decide) (by decide) (by decide) 0 rfl rfl rfl rfl hl.1 rfl (Nat.le_of_ble_eq_true rfl) dX1_putAt_3 ⟨Nat.zero_le _, Nat.zero_le _⟩ (fun v1 w1 H locs hq hP hD hS => ?_)
  rcases hq with ⟨rfl, rfl⟩
  have hP : va_P D vwCl ([(o, .inr (1, [.ref a, .int (nI (n + 1)), .int (ch + nI 1)])), (a, .inl (cI, 60, .inl (opn f q 1 n)))]) H := hP
  have hD : va_D A ([(o, .inr (1, [.ref a, .int (nI (n + 1)), .int (ch + nI 1)])), (a, .inl (cI, 60, .inl (opn f q 1 n)))]) := hD
  refine W.eq (g2 := F0 m 6 ls []) rfl ?_
  refine lv_aload_n hx hb dX1_putAt_6 rfl (lv_at hl 0 rfl) ?_
  refine va_get (D := D) (ci := 1) (v := .ref a) (C := RX1) (T := TX1) (N := 3) hx hb hts hi_X1_putAt_1 hown hK.1 hP 0 rfl rfl 0 (by decide) (hts _ hf_X1_putAt_9) (fun _ h9 => h9) rfl dX1_putAt_7 ?_
  refine lv_iload_n hx hb dX1_putAt_10 rfl (lv_at hl 1 rfl) ?_
  refine lv_iload_n hx hb dX1_putAt_11 rfl (lv_at hl 2 rfl) ?_
  refine pw_iast hx hb hK.1 hP hD hS 1 0 rfl rfl (by decide) (by omega) dX1_putAt_12 (fun H locs hP hD hS => ?_)
  have hP : va_P D vwCl ([(o, .inr (1, [.ref a, .int (nI (n + 1)), .int (ch + nI 1)])), (a, .inl (cI, 60, .inl (upd (opn f q 1 n) q x)))]) H := hP
  have hD : va_D A ([(o, .inr (1, [.ref a, .int (nI (n + 1)), .int (ch + nI 1)])), (a, .inl (cI, 60, .inl (upd (opn f q 1 n) q x)))]) := hD
  exact pw_vret hx hb hr hlocks dX1_putAt_13 hS hP hD (⟨rfl, rfl⟩)
theorem hi_X1_putAllAt_1 : ∀ w ∈ u_ws RX1 TX1 3, w ∈ wsX1_putAllAt := by decide +kernel
theorem hf_X1_putAllAt_9 : Cond.fieldLink RX1 9 "Pegrow$Row" "things" "[I" ∈ wsX1_putAllAt := by decide +kernel
theorem hf_X1_putAllAt_15 : Cond.fieldLink RX1 15 "Pegrow$Row" "length" "I" ∈ wsX1_putAllAt := by decide +kernel
set_option maxHeartbeats 4000000 in
set_option maxRecDepth 100000 in
theorem c_putAllAt (l : Launch) (D : va_G) (cI cP cR : ClassId) (o a n : Nat) (ch : Int32) (f : Nat → Int32) (o2 a2 n2 : Nat) (ch2 : Int32) (g : Nat → Int32) (q : Nat) (hn : n ≤ 60) (hq : q ≤ n) (hk : n + n2 ≤ 60) : pw_Mm l yX1_putAllAt wsX1_putAllAt ({ frames := 1, cells := 0, slots := 0, locals := 23 } : Room) D cI cP cR [.ref o, .int (nI q), .ref o2] ([(o, .inr (1, [.ref a, .int (nI n), .int (ch)])), (a, .inl (cI, 60, .inl (f))), (o2, .inr (1, [.ref a2, .int (nI n2), .int (ch2)])), (a2, .inl (cI, 60, .inl (g)))]) (fun v w => v = none ∧ w = [(o, .inr (1, [.ref a, .int (nI (n + n2)), .int (ch + nI 1)])), (a, .inl (cI, 60, .inl (putF (opn f q n2 n) q g n2))), (o2, .inr (1, [.ref a2, .int (nI n2), .int (ch2)])), (a2, .inl (cI, 60, .inl (g)))]) := by
  refine pw_ofm (cc := cX1_putAllAt) (maxL := 4) (ret := none) (own := RX1) (by decide +kernel) rfl rfl (Nat.le_of_ble_eq_true rfl) ?_
  intro p_ e_ s m bel meth cd A hE hK hP hD hA hS ls hl
  obtain ⟨hx, hb, hr, hml, hown, hts, hlocks⟩ := hE
  have hNW := hK.2
  have hl : lv_has ls 4 [(0, .ref o), (1, .int (nI q)), (2, .ref o2)] := hl
  refine lv_aload_n hx hb dX1_putAllAt_0 rfl (lv_at hl 0 rfl) ?_
  refine lv_iload_n hx hb dX1_putAllAt_1 rfl (lv_at hl 1 rfl) ?_
  refine lv_aload_n hx hb dX1_putAllAt_2 rfl (lv_at hl 2 rfl) ?_
  refine va_get (D := D) (ci := 1) (v := .int (nI n2)) (C := RX1) (T := TX1) (N := 3) hx hb hts hi_X1_putAllAt_1 hown hK.1 hP 2 rfl rfl 1 (by decide) (hts _ hf_X1_putAllAt_15) (fun _ h9 => h9) rfl dX1_putAllAt_3 ?_
  -- c_openAt
  refine pw_cVm (As := [.int (nI q), .int (nI n2)]) (rest := []) (wc := [(o, .inr (1, [.ref a, .int (nI n), .int (ch)])), (a, .inl (cI, 60, .inl (f)))]) (wr := [(o2, .inr (1, [.ref a2, .int (nI n2), .int (ch2)])), (a2, .inl (cI, 60, .inl (g)))]) ⟨hx, hb, hml, hown, hts⟩ (c_openAt l D cI cP cR o a n ch f q n2 (by omega) hq hk) (cwV 2 hts gX1_putAllAt_X1_openAt rfl rfl rfl (by decide +kernel) ⟨Nat.le_of_ble_eq_true rfl, Nat.le_of_ble_eq_true rfl⟩) hK hP hD hS hA [0, 1] [2, 3] rfl rfl (by decide) (by decide) (by decide) 0 rfl rfl rfl rfl hl.1 rfl (Nat.le_of_ble_eq_true rfl) dX1_putAllAt_6 ⟨Nat.zero_le _, Nat.zero_le _⟩ (fun v1 w1 H locs hq hP hD hS => ?_)
  rcases hq with ⟨rfl, rfl⟩
  have hP : va_P D vwCl ([(o2, .inr (1, [.ref a2, .int (nI n2), .int (ch2)])), (a2, .inl (cI, 60, .inl (g))), (o, .inr (1, [.ref a, .int (nI (n + n2)), .int (ch + nI 1)])), (a, .inl (cI, 60, .inl (opn f q n2 n)))]) H := hP
  have hD : va_D A ([(o2, .inr (1, [.ref a2, .int (nI n2), .int (ch2)])), (a2, .inl (cI, 60, .inl (g))), (o, .inr (1, [.ref a, .int (nI (n + n2)), .int (ch + nI 1)])), (a, .inl (cI, 60, .inl (opn f q n2 n)))]) := hD
  refine W.eq (g2 := F0 m 9 ls []) rfl ?_
  refine lv_iconst (v := nI 0) hx hb dX1_putAllAt_9 (by decide) ?_
  refine lv_istore_n (lv' := [(3, .int (nI 0)), (0, .ref o), (1, .int (nI q)), (2, .ref o2)]) hx hb dX1_putAllAt_10 rfl hl (by decide) rfl (fun ls hl => ?_)
  have loop : ∀ (r : Nat), ∀ (i : Nat), i + r = n2 → ∀ (H : Heap) (locs : List Loc), va_P D vwCl ([(o2, .inr (1, [.ref a2, .int (nI n2), .int (ch2)])), (a2, .inl (cI, 60, .inl (g))), (o, .inr (1, [.ref a, .int (nI (n + n2)), .int (ch + nI 1)])), (a, .inl (cI, 60, .inl (putF (opn f q n2 n) q g i)))]) H → va_D A ([(o2, .inr (1, [.ref a2, .int (nI n2), .int (ch2)])), (a2, .inl (cI, 60, .inl (g))), (o, .inr (1, [.ref a, .int (nI (n + n2)), .int (ch + nI 1)])), (a, .inl (cI, 60, .inl (putF (opn f q n2 n) q g i)))]) → va_S A s.heap H locs → ∀ ls : Array Slot, lv_has ls 4 [(3, .int (nI i)), (0, .ref o), (1, .int (nI q)), (2, .ref o2)] → W p_ l e_ ({ frames := 1, cells := 0, slots := 0, locals := 23 } : Room) s m [.ref o, .int (nI q), .ref o2].toArray bel meth cd H locs 0 0 (MQ bel (pw_Qm (fun v w => v = none ∧ w = [(o, .inr (1, [.ref a, .int (nI (n + n2)), .int (ch + nI 1)])), (a, .inl (cI, 60, .inl (putF (opn f q n2 n) q g n2))), (o2, .inr (1, [.ref a2, .int (nI n2), .int (ch2)])), (a2, .inl (cI, 60, .inl (g)))]) D A) [.ref o, .int (nI q), .ref o2].toArray s 0 0 A) (F0 m 11 ls []) := by
    intro r
    induction r with
    | zero =>
      intro i hr1 H locs hP hD hS ls hl
      obtain rfl : n2 = i := by omega
      refine lv_iload_n hx hb dX1_putAllAt_11 rfl (lv_at hl 0 rfl) ?_
      refine lv_aload_n hx hb dX1_putAllAt_12 rfl (lv_at hl 3 rfl) ?_
      refine va_get (D := D) (ci := 1) (v := .int (nI n2)) (C := RX1) (T := TX1) (N := 3) hx hb hts hi_X1_putAllAt_1 hown hK.1 hP 0 rfl rfl 1 (by decide) (hts _ hf_X1_putAllAt_15) (fun _ h9 => h9) rfl dX1_putAllAt_13 ?_
      refine pw_icmp_ge (tgt := 39) hx hb (by omega) (by omega) dX1_putAllAt_16 (by decide) (fun c_1 => ?_) (fun c_1 => ?_)
      · have _h := c_1
        have hP := hP.sub (ws' := [(o, .inr (1, [.ref a, .int (nI (n + n2)), .int (ch + nI 1)])), (a, .inl (cI, 60, .inl (putF (opn f q n2 n) q g n2))), (o2, .inr (1, [.ref a2, .int (nI n2), .int (ch2)])), (a2, .inl (cI, 60, .inl (g)))]) [2, 3, 0, 1] rfl
        have hD := hD.sub (ws' := [(o, .inr (1, [.ref a, .int (nI (n + n2)), .int (ch + nI 1)])), (a, .inl (cI, 60, .inl (putF (opn f q n2 n) q g n2))), (o2, .inr (1, [.ref a2, .int (nI n2), .int (ch2)])), (a2, .inl (cI, 60, .inl (g)))]) [2, 3, 0, 1] (by decide) rfl
        exact pw_vret hx hb hr hlocks dX1_putAllAt_39 hS hP hD (⟨rfl, rfl⟩)
      · exact absurd c_1 (by omega)
    | succ r ih =>
      intro i hr1 H locs hP hD hS ls hl
      refine lv_iload_n hx hb dX1_putAllAt_11 rfl (lv_at hl 0 rfl) ?_
      refine lv_aload_n hx hb dX1_putAllAt_12 rfl (lv_at hl 3 rfl) ?_
      refine va_get (D := D) (ci := 1) (v := .int (nI n2)) (C := RX1) (T := TX1) (N := 3) hx hb hts hi_X1_putAllAt_1 hown hK.1 hP 0 rfl rfl 1 (by decide) (hts _ hf_X1_putAllAt_15) (fun _ h9 => h9) rfl dX1_putAllAt_13 ?_
      refine pw_icmp_ge (tgt := 39) hx hb (by omega) (by omega) dX1_putAllAt_16 (by decide) (fun c_2 => ?_) (fun c_2 => ?_)
      · exact absurd c_2 (by omega)
      · have _h := c_2
        refine lv_aload_n hx hb dX1_putAllAt_19 rfl (lv_at hl 1 rfl) ?_
        refine va_get (D := D) (ci := 1) (v := .ref a) (C := RX1) (T := TX1) (N := 3) hx hb hts hi_X1_putAllAt_1 hown hK.1 hP 2 rfl rfl 0 (by decide) (hts _ hf_X1_putAllAt_9) (fun _ h9 => h9) rfl dX1_putAllAt_20 ?_
        refine lv_iload_n hx hb dX1_putAllAt_23 rfl (lv_at hl 2 rfl) ?_
        refine lv_iload_n hx hb dX1_putAllAt_24 rfl (lv_at hl 0 rfl) ?_
        refine pw_iadd hx hb dX1_putAllAt_25 ?_
        refine lv_aload_n hx hb dX1_putAllAt_26 rfl (lv_at hl 3 rfl) ?_
        refine va_get (D := D) (ci := 1) (v := .ref a2) (C := RX1) (T := TX1) (N := 3) hx hb hts hi_X1_putAllAt_1 hown hK.1 hP 0 rfl rfl 0 (by decide) (hts _ hf_X1_putAllAt_9) (fun _ h9 => h9) rfl dX1_putAllAt_27 ?_
        refine lv_iload_n hx hb dX1_putAllAt_30 rfl (lv_at hl 0 rfl) ?_
        refine pw_iald hx hb hK.1 hP 1 0 rfl rfl (by decide) (by omega) dX1_putAllAt_31 ?_
        refine pw_iast hx hb hK.1 hP hD hS 3 0 rfl rfl (by decide) (by omega) dX1_putAllAt_32 (fun H locs hP hD hS => ?_)
        have hP : va_P D vwCl ([(o2, .inr (1, [.ref a2, .int (nI n2), .int (ch2)])), (a2, .inl (cI, 60, .inl (g))), (o, .inr (1, [.ref a, .int (nI (n + n2)), .int (ch + nI 1)])), (a, .inl (cI, 60, .inl (upd (putF (opn f q n2 n) q g i) (q + i) (g i))))]) H := hP
        have hD : va_D A ([(o2, .inr (1, [.ref a2, .int (nI n2), .int (ch2)])), (a2, .inl (cI, 60, .inl (g))), (o, .inr (1, [.ref a, .int (nI (n + n2)), .int (ch + nI 1)])), (a, .inl (cI, 60, .inl (upd (putF (opn f q n2 n) q g i) (q + i) (g i))))]) := hD
        refine lv_iinc (v := nI (i + 1)) (lv' := [(3, .int (nI (i + 1))), (0, .ref o), (1, .int (nI q)), (2, .ref o2)]) hx hb dX1_putAllAt_33 hl (k := 0) rfl (pw_inc _ 1) (by decide) rfl (fun ls hl => ?_)
        refine lv_goto (tgt := 11) hx hb dX1_putAllAt_36 (by decide) ?_
        rw [putF_s] at hP hD
        exact ih (i + 1) (by omega) H locs hP hD hS ls hl
  exact loop n2 0 (by omega) H _ (by rw [putF_0]; exact hP) (by rw [putF_0]; exact hD) hS ls hl
theorem hi_X1_keepFirst_1 : ∀ w ∈ u_ws RX1 TX1 3, w ∈ wsX1_keepFirst := by decide +kernel
theorem hf_X1_keepFirst_15 : Cond.fieldLink RX1 15 "Pegrow$Row" "length" "I" ∈ wsX1_keepFirst := by decide +kernel
theorem hf_X1_keepFirst_27 : Cond.fieldLink RX1 27 "Pegrow$Row" "changes" "I" ∈ wsX1_keepFirst := by decide +kernel
set_option maxHeartbeats 4000000 in
set_option maxRecDepth 100000 in
theorem c_keepFirst (l : Launch) (D : va_G) (cI cP cR : ClassId) (o a n : Nat) (ch : Int32) (f : Nat → Int32) (k : Nat) (hn : n ≤ 60) (hk : k ≤ 60) : pw_Mm l yX1_keepFirst wsX1_keepFirst ({ frames := 0, cells := 0, slots := 0, locals := 0 } : Room) D cI cP cR [.ref o, .int (nI k)] ([(o, .inr (1, [.ref a, .int (nI n), .int (ch)])), (a, .inl (cI, 60, .inl (f)))]) (fun v w => v = none ∧ w = [(o, .inr (1, [.ref a, .int (nI k), .int (if k = n then ch else ch + nI 1)])), (a, .inl (cI, 60, .inl (f)))]) := by
  refine pw_ofm (cc := cX1_keepFirst) (maxL := 2) (ret := none) (own := RX1) (by decide +kernel) rfl rfl (Nat.le_of_ble_eq_true rfl) ?_
  intro p_ e_ s m bel meth cd A hE hK hP hD hA hS ls hl
  obtain ⟨hx, hb, hr, hml, hown, hts, hlocks⟩ := hE
  have hNW := hK.2
  have hl : lv_has ls 2 [(0, .ref o), (1, .int (nI k))] := hl
  refine lv_iload_n hx hb dX1_keepFirst_0 rfl (lv_at hl 1 rfl) ?_
  refine lv_aload_n hx hb dX1_keepFirst_1 rfl (lv_at hl 0 rfl) ?_
  refine va_get (D := D) (ci := 1) (v := .int (nI n)) (C := RX1) (T := TX1) (N := 3) hx hb hts hi_X1_keepFirst_1 hown hK.1 hP 0 rfl rfl 1 (by decide) (hts _ hf_X1_keepFirst_15) (fun _ h9 => h9) rfl dX1_keepFirst_2 ?_
  refine pw_icmp_eq (tgt := 23) hx hb (by omega) (by omega) dX1_keepFirst_5 (by decide) (fun c_1 => ?_) (fun c_1 => ?_)
  · have _h := c_1
    exact pw_vret hx hb hr hlocks dX1_keepFirst_23 hS hP hD (⟨rfl, by subst_vars; rw [if_pos rfl]⟩)
  · have _h := c_1
    refine lv_aload_n hx hb dX1_keepFirst_8 rfl (lv_at hl 0 rfl) ?_
    refine lv_iload_n hx hb dX1_keepFirst_9 rfl (lv_at hl 1 rfl) ?_
    refine va_put (D := D) (ci := 1) (v := .int (nI k)) (ty := .int) (C := RX1) (T := TX1) (N := 3) hx hb hts hi_X1_keepFirst_1 tyX1 tyX1_ok nmX1 hown hK.1 hP hD hS 0 rfl rfl 1 (by decide) (hts _ hf_X1_keepFirst_15) (fun _ h9 => h9) rfl (by decide +kernel) rfl rfl (Nat.le_of_ble_eq_true rfl) dX1_keepFirst_10 (fun H locs hP hD hS => ?_)
    have hP : va_P D vwCl ([(o, .inr (1, [.ref a, .int (nI k), .int (ch)])), (a, .inl (cI, 60, .inl (f)))]) H := hP
    have hD : va_D A ([(o, .inr (1, [.ref a, .int (nI k), .int (ch)])), (a, .inl (cI, 60, .inl (f)))]) := hD
    refine lv_aload_n hx hb dX1_keepFirst_13 rfl (lv_at hl 0 rfl) ?_
    refine lv_dup hx hb dX1_keepFirst_14 rfl ?_
    refine va_get (D := D) (ci := 1) (v := .int (ch)) (C := RX1) (T := TX1) (N := 3) hx hb hts hi_X1_keepFirst_1 hown hK.1 hP 0 rfl rfl 2 (by decide) (hts _ hf_X1_keepFirst_27) (fun _ h9 => h9) rfl dX1_keepFirst_15 ?_
    refine lv_iconst (v := nI 1) hx hb dX1_keepFirst_18 (by decide) ?_
    refine lv_iadd hx hb dX1_keepFirst_19 ?_
    refine va_put (D := D) (ci := 1) (v := .int (ch + (nI 1))) (ty := .int) (C := RX1) (T := TX1) (N := 3) hx hb hts hi_X1_keepFirst_1 tyX1 tyX1_ok nmX1 hown hK.1 hP hD hS 0 rfl rfl 2 (by decide) (hts _ hf_X1_keepFirst_27) (fun _ h9 => h9) rfl (by decide +kernel) rfl rfl (Nat.le_of_ble_eq_true rfl) dX1_keepFirst_20 (fun H locs hP hD hS => ?_)
    have hP : va_P D vwCl ([(o, .inr (1, [.ref a, .int (nI k), .int (ch + (nI 1))])), (a, .inl (cI, 60, .inl (f)))]) H := hP
    have hD : va_D A ([(o, .inr (1, [.ref a, .int (nI k), .int (ch + (nI 1))])), (a, .inl (cI, 60, .inl (f)))]) := hD
    exact pw_vret hx hb hr hlocks dX1_keepFirst_23 hS hP hD (⟨rfl, by rw [if_neg (by assumption)]⟩)
theorem hi_X1_takeAt_1 : ∀ w ∈ u_ws RX1 TX1 3, w ∈ wsX1_takeAt := by decide +kernel
theorem hf_X1_takeAt_9 : Cond.fieldLink RX1 9 "Pegrow$Row" "things" "[I" ∈ wsX1_takeAt := by decide +kernel
theorem hf_X1_takeAt_15 : Cond.fieldLink RX1 15 "Pegrow$Row" "length" "I" ∈ wsX1_takeAt := by decide +kernel
set_option maxHeartbeats 4000000 in
set_option maxRecDepth 100000 in
theorem c_takeAt (l : Launch) (D : va_G) (cI cP cR : ClassId) (o a n : Nat) (ch : Int32) (f : Nat → Int32) (j : Nat) (hn : n ≤ 60) (hj : j < n) : pw_Mm l yX1_takeAt wsX1_takeAt ({ frames := 1, cells := 0, slots := 0, locals := 21 } : Room) D cI cP cR [.ref o, .int (nI j)] ([(o, .inr (1, [.ref a, .int (nI n), .int (ch)])), (a, .inl (cI, 60, .inl (f)))]) (fun v w => v = some (.int (f j)) ∧ w = [(o, .inr (1, [.ref a, .int (nI (n - 1)), .int (ch + nI 1)])), (a, .inl (cI, 60, .inl (clsF f j n)))]) := by
  refine pw_ofm (cc := cX1_takeAt) (maxL := 4) (ret := (some .int)) (own := RX1) (by decide +kernel) rfl rfl (Nat.le_of_ble_eq_true rfl) ?_
  intro p_ e_ s m bel meth cd A hE hK hP hD hA hS ls hl
  obtain ⟨hx, hb, hr, hml, hown, hts, hlocks⟩ := hE
  have hNW := hK.2
  have hl : lv_has ls 4 [(0, .ref o), (1, .int (nI j))] := hl
  refine lv_aload_n hx hb dX1_takeAt_0 rfl (lv_at hl 0 rfl) ?_
  refine va_get (D := D) (ci := 1) (v := .ref a) (C := RX1) (T := TX1) (N := 3) hx hb hts hi_X1_takeAt_1 hown hK.1 hP 0 rfl rfl 0 (by decide) (hts _ hf_X1_takeAt_9) (fun _ h9 => h9) rfl dX1_takeAt_1 ?_
  refine lv_iload_n hx hb dX1_takeAt_4 rfl (lv_at hl 1 rfl) ?_
  refine pw_iald hx hb hK.1 hP 1 0 rfl rfl (by decide) (by omega) dX1_takeAt_5 ?_
  refine lv_istore_n (lv' := [(2, .int (f j)), (0, .ref o), (1, .int (nI j))]) hx hb dX1_takeAt_6 rfl hl (by decide) rfl (fun ls hl => ?_)
  refine lv_iload_n hx hb dX1_takeAt_7 rfl (lv_at hl 2 rfl) ?_
  refine lv_iconst (v := nI 1) hx hb dX1_takeAt_8 (by decide) ?_
  refine pw_iadd hx hb dX1_takeAt_9 ?_
  refine lv_istore_n (lv' := [(3, .int (nI (j + 1))), (2, .int (f j)), (0, .ref o), (1, .int (nI j))]) hx hb dX1_takeAt_10 rfl hl (by decide) rfl (fun ls hl => ?_)
  have loop : ∀ (r : Nat), ∀ (i : Nat), i + r = n → j < i → ∀ (H : Heap) (locs : List Loc), va_P D vwCl ([(o, .inr (1, [.ref a, .int (nI n), .int (ch)])), (a, .inl (cI, 60, .inl (clsF f j i)))]) H → va_D A ([(o, .inr (1, [.ref a, .int (nI n), .int (ch)])), (a, .inl (cI, 60, .inl (clsF f j i)))]) → va_S A s.heap H locs → ∀ ls : Array Slot, lv_has ls 4 [(3, .int (nI i)), (2, .int (f j)), (0, .ref o), (1, .int (nI j))] → W p_ l e_ ({ frames := 1, cells := 0, slots := 0, locals := 21 } : Room) s m [.ref o, .int (nI j)].toArray bel meth cd H locs 0 0 (MQ bel (pw_Qm (fun v w => v = some (.int (f j)) ∧ w = [(o, .inr (1, [.ref a, .int (nI (n - 1)), .int (ch + nI 1)])), (a, .inl (cI, 60, .inl (clsF f j n)))]) D A) [.ref o, .int (nI j)].toArray s 0 0 A) (F0 m 11 ls []) := by
    intro r
    induction r with
    | zero =>
      intro i hr1 hr2 H locs hP hD hS ls hl
      obtain rfl : n = i := by omega
      refine lv_iload_n hx hb dX1_takeAt_11 rfl (lv_at hl 0 rfl) ?_
      refine lv_aload_n hx hb dX1_takeAt_12 rfl (lv_at hl 2 rfl) ?_
      refine va_get (D := D) (ci := 1) (v := .int (nI n)) (C := RX1) (T := TX1) (N := 3) hx hb hts hi_X1_takeAt_1 hown hK.1 hP 0 rfl rfl 1 (by decide) (hts _ hf_X1_takeAt_15) (fun _ h9 => h9) rfl dX1_takeAt_13 ?_
      refine pw_icmp_ge (tgt := 39) hx hb (by omega) (by omega) dX1_takeAt_16 (by decide) (fun c_1 => ?_) (fun c_1 => ?_)
      · have _h := c_1
        refine lv_aload_n hx hb dX1_takeAt_39 rfl (lv_at hl 2 rfl) ?_
        refine lv_aload_n hx hb dX1_takeAt_40 rfl (lv_at hl 2 rfl) ?_
        refine va_get (D := D) (ci := 1) (v := .int (nI n)) (C := RX1) (T := TX1) (N := 3) hx hb hts hi_X1_takeAt_1 hown hK.1 hP 0 rfl rfl 1 (by decide) (hts _ hf_X1_takeAt_15) (fun _ h9 => h9) rfl dX1_takeAt_41 ?_
        refine lv_iconst (v := nI 1) hx hb dX1_takeAt_44 (by decide) ?_
        refine pw_isub hx hb (by omega) dX1_takeAt_45 ?_
        -- c_keepFirst
        refine pw_cVm (As := [.int (nI (n - 1))]) (rest := []) (wc := [(o, .inr (1, [.ref a, .int (nI n), .int (ch)])), (a, .inl (cI, 60, .inl (clsF f j n)))]) (wr := []) ⟨hx, hb, hml, hown, hts⟩ (c_keepFirst l D cI cP cR o a n ch (clsF f j n) (n - 1) (by omega) (by omega)) (cwV 1 hts gX1_takeAt_X1_keepFirst rfl rfl rfl (by decide +kernel) ⟨Nat.le_of_ble_eq_true rfl, Nat.le_of_ble_eq_true rfl⟩) hK hP hD hS hA [0, 1] [] rfl rfl (by decide) (by decide) (by decide) 0 rfl rfl rfl rfl hl.1 rfl (Nat.le_of_ble_eq_true rfl) dX1_takeAt_46 ⟨Nat.zero_le _, Nat.zero_le _⟩ (fun v1 w1 H locs hq hP hD hS => ?_)
        rcases hq with ⟨rfl, rfl⟩
        have hP : va_P D vwCl ([(o, .inr (1, [.ref a, .int (nI (n - 1)), .int (if n - 1 = n then ch else ch + nI 1)])), (a, .inl (cI, 60, .inl (clsF f j n)))]) H := hP
        have hD : va_D A ([(o, .inr (1, [.ref a, .int (nI (n - 1)), .int (if n - 1 = n then ch else ch + nI 1)])), (a, .inl (cI, 60, .inl (clsF f j n)))]) := hD
        rw [if_neg (show ¬ n - 1 = n by omega)] at hP hD
        refine W.eq (g2 := F0 m 49 ls []) rfl ?_
        refine lv_iload_n hx hb dX1_takeAt_49 rfl (lv_at hl 1 rfl) ?_
        exact pw_iret hx hb hr (rfl) hlocks dX1_takeAt_50 hS hP hD (⟨rfl, rfl⟩)
      · exact absurd c_1 (by omega)
    | succ r ih =>
      intro i hr1 hr2 H locs hP hD hS ls hl
      refine lv_iload_n hx hb dX1_takeAt_11 rfl (lv_at hl 0 rfl) ?_
      refine lv_aload_n hx hb dX1_takeAt_12 rfl (lv_at hl 2 rfl) ?_
      refine va_get (D := D) (ci := 1) (v := .int (nI n)) (C := RX1) (T := TX1) (N := 3) hx hb hts hi_X1_takeAt_1 hown hK.1 hP 0 rfl rfl 1 (by decide) (hts _ hf_X1_takeAt_15) (fun _ h9 => h9) rfl dX1_takeAt_13 ?_
      refine pw_icmp_ge (tgt := 39) hx hb (by omega) (by omega) dX1_takeAt_16 (by decide) (fun c_2 => ?_) (fun c_2 => ?_)
      · exact absurd c_2 (by omega)
      · have _h := c_2
        refine lv_aload_n hx hb dX1_takeAt_19 rfl (lv_at hl 2 rfl) ?_
        refine va_get (D := D) (ci := 1) (v := .ref a) (C := RX1) (T := TX1) (N := 3) hx hb hts hi_X1_takeAt_1 hown hK.1 hP 0 rfl rfl 0 (by decide) (hts _ hf_X1_takeAt_9) (fun _ h9 => h9) rfl dX1_takeAt_20 ?_
        refine lv_iload_n hx hb dX1_takeAt_23 rfl (lv_at hl 0 rfl) ?_
        refine lv_iconst (v := nI 1) hx hb dX1_takeAt_24 (by decide) ?_
        refine pw_isub hx hb (by omega) dX1_takeAt_25 ?_
        refine lv_aload_n hx hb dX1_takeAt_26 rfl (lv_at hl 2 rfl) ?_
        refine va_get (D := D) (ci := 1) (v := .ref a) (C := RX1) (T := TX1) (N := 3) hx hb hts hi_X1_takeAt_1 hown hK.1 hP 0 rfl rfl 0 (by decide) (hts _ hf_X1_takeAt_9) (fun _ h9 => h9) rfl dX1_takeAt_27 ?_
        refine lv_iload_n hx hb dX1_takeAt_30 rfl (lv_at hl 0 rfl) ?_
        refine pw_iald hx hb hK.1 hP 1 0 rfl rfl (by decide) (by omega) dX1_takeAt_31 ?_
        refine pw_iast hx hb hK.1 hP hD hS 1 0 rfl rfl (by decide) (by omega) dX1_takeAt_32 (fun H locs hP hD hS => ?_)
        have hP : va_P D vwCl ([(o, .inr (1, [.ref a, .int (nI n), .int (ch)])), (a, .inl (cI, 60, .inl (upd (clsF f j i) (i - 1) ((clsF f j i) i))))]) H := hP
        have hD : va_D A ([(o, .inr (1, [.ref a, .int (nI n), .int (ch)])), (a, .inl (cI, 60, .inl (upd (clsF f j i) (i - 1) ((clsF f j i) i))))]) := hD
        refine lv_iinc (v := nI (i + 1)) (lv' := [(3, .int (nI (i + 1))), (2, .int (f j)), (0, .ref o), (1, .int (nI j))]) hx hb dX1_takeAt_33 hl (k := 0) rfl (pw_inc _ 1) (by decide) rfl (fun ls hl => ?_)
        refine lv_goto (tgt := 11) hx hb dX1_takeAt_36 (by decide) ?_
        rw [clsF_s f j i (by omega)] at hP hD
        exact ih (i + 1) (by omega) (by omega) H locs hP hD hS ls hl
  exact loop (n - (j + 1)) (j + 1) (by omega) (by omega) s.heap [] (by rw [clsF_0 f j _ (by omega)]; exact hP) (by rw [clsF_0 f j _ (by omega)]; exact hD) hS ls hl
theorem hi_X1_placeOf_1 : ∀ w ∈ u_ws RX1 TX1 3, w ∈ wsX1_placeOf := by decide +kernel
theorem hf_X1_placeOf_9 : Cond.fieldLink RX1 9 "Pegrow$Row" "things" "[I" ∈ wsX1_placeOf := by decide +kernel
theorem hf_X1_placeOf_15 : Cond.fieldLink RX1 15 "Pegrow$Row" "length" "I" ∈ wsX1_placeOf := by decide +kernel
set_option maxHeartbeats 4000000 in
set_option maxRecDepth 100000 in
theorem c_placeOf (l : Launch) (D : va_G) (cI cP cR : ClassId) (o a n : Nat) (ch : Int32) (f : Nat → Int32) (nm la : Int32) (hn : n ≤ 60) : pw_Mp l yX1_placeOf wsX1_placeOf ({ frames := 0, cells := 0, slots := 0, locals := 0 } : Room) D cI cP cR [.ref o, .int (nm), .int (la)] ([(o, .inr (1, [.ref a, .int (nI n), .int (ch)])), (a, .inl (cI, 60, .inl (f)))]) (.int (plc f nm la n)) := by
  refine pw_ofp (cc := cX1_placeOf) (maxL := 5) (ret := (some .int)) (own := RX1) (by decide +kernel) rfl rfl (Nat.le_of_ble_eq_true rfl) ?_
  intro p_ e_ s m bel meth cd hE hK hP hD ls hl
  obtain ⟨hx, hb, hr, hml, hown, hts, hlocks⟩ := hE
  have hNW := hK.2
  have hl : lv_has ls 5 [(0, .ref o), (1, .int (nm)), (2, .int (la))] := hl
  refine lv_iconst (v := -1) hx hb dX1_placeOf_0 (by decide) ?_
  refine lv_istore_n (lv' := [(3, .int (-1)), (0, .ref o), (1, .int (nm)), (2, .int (la))]) hx hb dX1_placeOf_1 rfl hl (by decide) rfl (fun ls hl => ?_)
  refine lv_iconst (v := nI 0) hx hb dX1_placeOf_2 (by decide) ?_
  refine lv_istore (lv' := [(4, .int (nI 0)), (3, .int (-1)), (0, .ref o), (1, .int (nm)), (2, .int (la))]) hx hb dX1_placeOf_3 hl (by decide) rfl (fun ls hl => ?_)
  have loop : ∀ (r : Nat), ∀ (i : Nat), i + r = n → ∀ (x3 : Int32), x3 = plc f nm la i → ∀ ls : Array Slot, lv_has ls 5 [(4, .int (nI i)), (3, .int (x3)), (0, .ref o), (1, .int (nm)), (2, .int (la))] → W p_ l e_ ({ frames := 0, cells := 0, slots := 0, locals := 0 } : Room) s m [.ref o, .int (nm), .int (la)].toArray bel meth cd s.heap [] 0 0 (MQ bel (pw_Qp (.int (plc f nm la n))) [.ref o, .int (nm), .int (la)].toArray s 0 0 (fun _ => False)) (F0 m 5 ls []) := by
    intro r
    induction r with
    | zero =>
      intro i hr1 x3 ex3 ls hl
      obtain rfl : n = i := by omega
      refine lv_iload hx hb dX1_placeOf_5 (lv_at hl 0 rfl) ?_
      refine lv_aload_n hx hb dX1_placeOf_7 rfl (lv_at hl 2 rfl) ?_
      refine va_get (D := D) (ci := 1) (v := .int (nI n)) (C := RX1) (T := TX1) (N := 3) hx hb hts hi_X1_placeOf_1 hown hK.1 hP 0 rfl rfl 1 (by decide) (hts _ hf_X1_placeOf_15) (fun _ h9 => h9) rfl dX1_placeOf_8 ?_
      refine pw_icmp_ge (tgt := 46) hx hb (by omega) (by omega) dX1_placeOf_11 (by decide) (fun c_1 => ?_) (fun c_1 => ?_)
      · have _h := c_1
        refine lv_iload_n hx hb dX1_placeOf_46 rfl (lv_at hl 1 rfl) ?_
        exact pw_piret hx hb hr (rfl) hlocks dX1_placeOf_47 (by rw [ex3])
      · exact absurd c_1 (by omega)
    | succ r ih =>
      intro i hr1 x3 ex3 ls hl
      refine lv_iload hx hb dX1_placeOf_5 (lv_at hl 0 rfl) ?_
      refine lv_aload_n hx hb dX1_placeOf_7 rfl (lv_at hl 2 rfl) ?_
      refine va_get (D := D) (ci := 1) (v := .int (nI n)) (C := RX1) (T := TX1) (N := 3) hx hb hts hi_X1_placeOf_1 hown hK.1 hP 0 rfl rfl 1 (by decide) (hts _ hf_X1_placeOf_15) (fun _ h9 => h9) rfl dX1_placeOf_8 ?_
      refine pw_icmp_ge (tgt := 46) hx hb (by omega) (by omega) dX1_placeOf_11 (by decide) (fun c_2 => ?_) (fun c_2 => ?_)
      · exact absurd c_2 (by omega)
      · have _h := c_2
        refine lv_iload_n hx hb dX1_placeOf_14 rfl (lv_at hl 4 rfl) ?_
        refine lv_if_ne (tgt := 23) hx hb dX1_placeOf_15 (by decide) (fun c_3 => ?_) (fun c_3 => ?_)
        · have _h := c_3
          refine lv_aload_n hx hb dX1_placeOf_23 rfl (lv_at hl 2 rfl) ?_
          refine va_get (D := D) (ci := 1) (v := .ref a) (C := RX1) (T := TX1) (N := 3) hx hb hts hi_X1_placeOf_1 hown hK.1 hP 0 rfl rfl 0 (by decide) (hts _ hf_X1_placeOf_9) (fun _ h9 => h9) rfl dX1_placeOf_24 ?_
          refine lv_iload hx hb dX1_placeOf_27 (lv_at hl 0 rfl) ?_
          refine pw_iald hx hb hK.1 hP 1 0 rfl rfl (by decide) (by omega) dX1_placeOf_29 ?_
          refine lv_bipush (v := nI 10) hx hb dX1_placeOf_30 (by decide) ?_
          refine lv_irem hx hb dX1_placeOf_32 (by decide) ?_
          refine lv_iload_n hx hb dX1_placeOf_33 rfl (lv_at hl 3 rfl) ?_
          refine lv_icmp_ne (tgt := 40) hx hb dX1_placeOf_34 (by decide) (fun c_4 => ?_) (fun c_4 => ?_)
          · have _h := c_4
            refine lv_iinc (v := nI (i + 1)) (lv' := [(4, .int (nI (i + 1))), (3, .int (x3)), (0, .ref o), (1, .int (nm)), (2, .int (la))]) hx hb dX1_placeOf_40 hl (k := 0) rfl (pw_inc _ 1) (by decide) rfl (fun ls hl => ?_)
            refine lv_goto (tgt := 5) hx hb dX1_placeOf_43 (by decide) ?_
            refine ih (i + 1) (by omega) _ (show _ = if _ then _ else _ from by rw [if_neg (fun q => c_4 q.1)]; exact ex3) ls (lv_sub hl [0, 1, 2, 3, 4] rfl)
          · have _h := c_4
            refine lv_iload hx hb dX1_placeOf_37 (lv_at hl 0 rfl) ?_
            refine lv_istore_n (lv' := [(3, .int (nI i)), (4, .int (nI i)), (0, .ref o), (1, .int (nm)), (2, .int (la))]) hx hb dX1_placeOf_39 rfl hl (by decide) rfl (fun ls hl => ?_)
            refine lv_iinc (v := nI (i + 1)) (lv' := [(4, .int (nI (i + 1))), (3, .int (nI i)), (0, .ref o), (1, .int (nm)), (2, .int (la))]) hx hb dX1_placeOf_40 hl (k := 1) rfl (pw_inc _ 1) (by decide) rfl (fun ls hl => ?_)
            refine lv_goto (tgt := 5) hx hb dX1_placeOf_43 (by decide) ?_
            refine ih (i + 1) (by omega) _ (show _ = if _ then _ else _ from by rw [if_pos ⟨c_4, Or.inl c_3⟩]) ls (lv_sub hl [0, 1, 2, 3, 4] rfl)
        · have _h := c_3
          refine lv_iload_n hx hb dX1_placeOf_18 rfl (lv_at hl 1 rfl) ?_
          refine lv_iconst (v := -1) hx hb dX1_placeOf_19 (by decide) ?_
          refine lv_icmp_ne (tgt := 46) hx hb dX1_placeOf_20 (by decide) (fun c_5 => ?_) (fun c_5 => ?_)
          · have _h := c_5
            refine lv_iload_n hx hb dX1_placeOf_46 rfl (lv_at hl 1 rfl) ?_
            exact pw_piret hx hb hr (rfl) hlocks dX1_placeOf_47 (congrArg Value.int (by have h := plc_stop c_3 (show ¬ plc f nm la i = -1 from by rw [← ex3]; exact c_5) (r + 1); rw [hr1, ← ex3] at h; exact h))
          · have _h := c_5
            refine lv_aload_n hx hb dX1_placeOf_23 rfl (lv_at hl 2 rfl) ?_
            refine va_get (D := D) (ci := 1) (v := .ref a) (C := RX1) (T := TX1) (N := 3) hx hb hts hi_X1_placeOf_1 hown hK.1 hP 0 rfl rfl 0 (by decide) (hts _ hf_X1_placeOf_9) (fun _ h9 => h9) rfl dX1_placeOf_24 ?_
            refine lv_iload hx hb dX1_placeOf_27 (lv_at hl 0 rfl) ?_
            refine pw_iald hx hb hK.1 hP 1 0 rfl rfl (by decide) (by omega) dX1_placeOf_29 ?_
            refine lv_bipush (v := nI 10) hx hb dX1_placeOf_30 (by decide) ?_
            refine lv_irem hx hb dX1_placeOf_32 (by decide) ?_
            refine lv_iload_n hx hb dX1_placeOf_33 rfl (lv_at hl 3 rfl) ?_
            refine lv_icmp_ne (tgt := 40) hx hb dX1_placeOf_34 (by decide) (fun c_6 => ?_) (fun c_6 => ?_)
            · have _h := c_6
              refine lv_iinc (v := nI (i + 1)) (lv' := [(4, .int (nI (i + 1))), (3, .int (x3)), (0, .ref o), (1, .int (nm)), (2, .int (la))]) hx hb dX1_placeOf_40 hl (k := 0) rfl (pw_inc _ 1) (by decide) rfl (fun ls hl => ?_)
              refine lv_goto (tgt := 5) hx hb dX1_placeOf_43 (by decide) ?_
              refine ih (i + 1) (by omega) _ (show _ = if _ then _ else _ from by rw [if_neg (fun q => c_6 q.1)]; exact ex3) ls (lv_sub hl [0, 1, 2, 3, 4] rfl)
            · have _h := c_6
              refine lv_iload hx hb dX1_placeOf_37 (lv_at hl 0 rfl) ?_
              refine lv_istore_n (lv' := [(3, .int (nI i)), (4, .int (nI i)), (0, .ref o), (1, .int (nm)), (2, .int (la))]) hx hb dX1_placeOf_39 rfl hl (by decide) rfl (fun ls hl => ?_)
              refine lv_iinc (v := nI (i + 1)) (lv' := [(4, .int (nI (i + 1))), (3, .int (nI i)), (0, .ref o), (1, .int (nm)), (2, .int (la))]) hx hb dX1_placeOf_40 hl (k := 1) rfl (pw_inc _ 1) (by decide) rfl (fun ls hl => ?_)
              refine lv_goto (tgt := 5) hx hb dX1_placeOf_43 (by decide) ?_
              refine ih (i + 1) (by omega) _ (show _ = if _ then _ else _ from by rw [if_pos ⟨c_6, Or.inr (by rw [← ex3]; exact c_5)⟩]) ls (lv_sub hl [0, 1, 2, 3, 4] rfl)
  exact loop n 0 (by omega) _ rfl ls hl
theorem hi_X1_becomeLike_1 : ∀ w ∈ u_ws RX1 TX1 3, w ∈ wsX1_becomeLike := by decide +kernel
theorem hf_X1_becomeLike_9 : Cond.fieldLink RX1 9 "Pegrow$Row" "things" "[I" ∈ wsX1_becomeLike := by decide +kernel
theorem hf_X1_becomeLike_15 : Cond.fieldLink RX1 15 "Pegrow$Row" "length" "I" ∈ wsX1_becomeLike := by decide +kernel
set_option maxHeartbeats 4000000 in
set_option maxRecDepth 100000 in
theorem c_becomeLike (l : Launch) (D : va_G) (cI cP cR : ClassId) (o a n : Nat) (ch : Int32) (f : Nat → Int32) (o2 a2 n2 : Nat) (ch2 : Int32) (g : Nat → Int32) (hn : n2 ≤ 60) : pw_Mm l yX1_becomeLike wsX1_becomeLike ({ frames := 0, cells := 0, slots := 0, locals := 0 } : Room) D cI cP cR [.ref o, .ref o2] ([(o, .inr (1, [.ref a, .int (nI n), .int (ch)])), (a, .inl (cI, 60, .inl (f))), (o2, .inr (1, [.ref a2, .int (nI n2), .int (ch2)])), (a2, .inl (cI, 60, .inl (g)))]) (fun v w => v = none ∧ w = [(o, .inr (1, [.ref a, .int (nI n2), .int (ch)])), (a, .inl (cI, 60, .inl (putF f 0 g n2))), (o2, .inr (1, [.ref a2, .int (nI n2), .int (ch2)])), (a2, .inl (cI, 60, .inl (g)))]) := by
  refine pw_ofm (cc := cX1_becomeLike) (maxL := 3) (ret := none) (own := RX1) (by decide +kernel) rfl rfl (Nat.le_of_ble_eq_true rfl) ?_
  intro p_ e_ s m bel meth cd A hE hK hP hD hA hS ls hl
  obtain ⟨hx, hb, hr, hml, hown, hts, hlocks⟩ := hE
  have hNW := hK.2
  have hl : lv_has ls 3 [(0, .ref o), (1, .ref o2)] := hl
  refine lv_iconst (v := nI 0) hx hb dX1_becomeLike_0 (by decide) ?_
  refine lv_istore_n (lv' := [(2, .int (nI 0)), (0, .ref o), (1, .ref o2)]) hx hb dX1_becomeLike_1 rfl hl (by decide) rfl (fun ls hl => ?_)
  have loop : ∀ (r : Nat), ∀ (i : Nat), i + r = n2 → ∀ (H : Heap) (locs : List Loc), va_P D vwCl ([(o, .inr (1, [.ref a, .int (nI n), .int (ch)])), (a, .inl (cI, 60, .inl (putF f 0 g i))), (o2, .inr (1, [.ref a2, .int (nI n2), .int (ch2)])), (a2, .inl (cI, 60, .inl (g)))]) H → va_D A ([(o, .inr (1, [.ref a, .int (nI n), .int (ch)])), (a, .inl (cI, 60, .inl (putF f 0 g i))), (o2, .inr (1, [.ref a2, .int (nI n2), .int (ch2)])), (a2, .inl (cI, 60, .inl (g)))]) → va_S A s.heap H locs → ∀ ls : Array Slot, lv_has ls 3 [(2, .int (nI i)), (0, .ref o), (1, .ref o2)] → W p_ l e_ ({ frames := 0, cells := 0, slots := 0, locals := 0 } : Room) s m [.ref o, .ref o2].toArray bel meth cd H locs 0 0 (MQ bel (pw_Qm (fun v w => v = none ∧ w = [(o, .inr (1, [.ref a, .int (nI n2), .int (ch)])), (a, .inl (cI, 60, .inl (putF f 0 g n2))), (o2, .inr (1, [.ref a2, .int (nI n2), .int (ch2)])), (a2, .inl (cI, 60, .inl (g)))]) D A) [.ref o, .ref o2].toArray s 0 0 A) (F0 m 2 ls []) := by
    intro r
    induction r with
    | zero =>
      intro i hr1 H locs hP hD hS ls hl
      obtain rfl : n2 = i := by omega
      refine lv_iload_n hx hb dX1_becomeLike_2 rfl (lv_at hl 0 rfl) ?_
      refine lv_aload_n hx hb dX1_becomeLike_3 rfl (lv_at hl 2 rfl) ?_
      refine va_get (D := D) (ci := 1) (v := .int (nI n2)) (C := RX1) (T := TX1) (N := 3) hx hb hts hi_X1_becomeLike_1 hown hK.1 hP 2 rfl rfl 1 (by decide) (hts _ hf_X1_becomeLike_15) (fun _ h9 => h9) rfl dX1_becomeLike_4 ?_
      refine pw_icmp_ge (tgt := 28) hx hb (by omega) (by omega) dX1_becomeLike_7 (by decide) (fun c_1 => ?_) (fun c_1 => ?_)
      · have _h := c_1
        refine lv_aload_n hx hb dX1_becomeLike_28 rfl (lv_at hl 1 rfl) ?_
        refine lv_aload_n hx hb dX1_becomeLike_29 rfl (lv_at hl 2 rfl) ?_
        refine va_get (D := D) (ci := 1) (v := .int (nI n2)) (C := RX1) (T := TX1) (N := 3) hx hb hts hi_X1_becomeLike_1 hown hK.1 hP 2 rfl rfl 1 (by decide) (hts _ hf_X1_becomeLike_15) (fun _ h9 => h9) rfl dX1_becomeLike_30 ?_
        refine va_put (D := D) (ci := 1) (v := .int (nI n2)) (ty := .int) (C := RX1) (T := TX1) (N := 3) hx hb hts hi_X1_becomeLike_1 tyX1 tyX1_ok nmX1 hown hK.1 hP hD hS 0 rfl rfl 1 (by decide) (hts _ hf_X1_becomeLike_15) (fun _ h9 => h9) rfl (by decide +kernel) rfl rfl (Nat.le_of_ble_eq_true rfl) dX1_becomeLike_33 (fun H locs hP hD hS => ?_)
        have hP : va_P D vwCl ([(o, .inr (1, [.ref a, .int (nI n2), .int (ch)])), (a, .inl (cI, 60, .inl (putF f 0 g n2))), (o2, .inr (1, [.ref a2, .int (nI n2), .int (ch2)])), (a2, .inl (cI, 60, .inl (g)))]) H := hP
        have hD : va_D A ([(o, .inr (1, [.ref a, .int (nI n2), .int (ch)])), (a, .inl (cI, 60, .inl (putF f 0 g n2))), (o2, .inr (1, [.ref a2, .int (nI n2), .int (ch2)])), (a2, .inl (cI, 60, .inl (g)))]) := hD
        exact pw_vret hx hb hr hlocks dX1_becomeLike_36 hS hP hD (⟨rfl, rfl⟩)
      · exact absurd c_1 (by omega)
    | succ r ih =>
      intro i hr1 H locs hP hD hS ls hl
      refine lv_iload_n hx hb dX1_becomeLike_2 rfl (lv_at hl 0 rfl) ?_
      refine lv_aload_n hx hb dX1_becomeLike_3 rfl (lv_at hl 2 rfl) ?_
      refine va_get (D := D) (ci := 1) (v := .int (nI n2)) (C := RX1) (T := TX1) (N := 3) hx hb hts hi_X1_becomeLike_1 hown hK.1 hP 2 rfl rfl 1 (by decide) (hts _ hf_X1_becomeLike_15) (fun _ h9 => h9) rfl dX1_becomeLike_4 ?_
      refine pw_icmp_ge (tgt := 28) hx hb (by omega) (by omega) dX1_becomeLike_7 (by decide) (fun c_2 => ?_) (fun c_2 => ?_)
      · exact absurd c_2 (by omega)
      · have _h := c_2
        refine lv_aload_n hx hb dX1_becomeLike_10 rfl (lv_at hl 1 rfl) ?_
        refine va_get (D := D) (ci := 1) (v := .ref a) (C := RX1) (T := TX1) (N := 3) hx hb hts hi_X1_becomeLike_1 hown hK.1 hP 0 rfl rfl 0 (by decide) (hts _ hf_X1_becomeLike_9) (fun _ h9 => h9) rfl dX1_becomeLike_11 ?_
        refine lv_iload_n hx hb dX1_becomeLike_14 rfl (lv_at hl 0 rfl) ?_
        refine lv_aload_n hx hb dX1_becomeLike_15 rfl (lv_at hl 2 rfl) ?_
        refine va_get (D := D) (ci := 1) (v := .ref a2) (C := RX1) (T := TX1) (N := 3) hx hb hts hi_X1_becomeLike_1 hown hK.1 hP 2 rfl rfl 0 (by decide) (hts _ hf_X1_becomeLike_9) (fun _ h9 => h9) rfl dX1_becomeLike_16 ?_
        refine lv_iload_n hx hb dX1_becomeLike_19 rfl (lv_at hl 0 rfl) ?_
        refine pw_iald hx hb hK.1 hP 3 0 rfl rfl (by decide) (by omega) dX1_becomeLike_20 ?_
        refine pw_iast hx hb hK.1 hP hD hS 1 0 rfl rfl (by decide) (by omega) dX1_becomeLike_21 (fun H locs hP hD hS => ?_)
        have hP : va_P D vwCl ([(o, .inr (1, [.ref a, .int (nI n), .int (ch)])), (a, .inl (cI, 60, .inl (upd (putF f 0 g i) i (g i)))), (o2, .inr (1, [.ref a2, .int (nI n2), .int (ch2)])), (a2, .inl (cI, 60, .inl (g)))]) H := hP
        have hD : va_D A ([(o, .inr (1, [.ref a, .int (nI n), .int (ch)])), (a, .inl (cI, 60, .inl (upd (putF f 0 g i) i (g i)))), (o2, .inr (1, [.ref a2, .int (nI n2), .int (ch2)])), (a2, .inl (cI, 60, .inl (g)))]) := hD
        refine lv_iinc (v := nI (i + 1)) (lv' := [(2, .int (nI (i + 1))), (0, .ref o), (1, .ref o2)]) hx hb dX1_becomeLike_22 hl (k := 0) rfl (pw_inc _ 1) (by decide) rfl (fun ls hl => ?_)
        refine lv_goto (tgt := 2) hx hb dX1_becomeLike_25 (by decide) ?_
        rw [putF_s0] at hP hD
        exact ih (i + 1) (by omega) H locs hP hD hS ls hl
  exact loop n2 0 (by omega) s.heap [] (by rw [putF_0]; exact hP) (by rw [putF_0]; exact hD) hS ls hl
theorem hi_X1_turnRound_1 : ∀ w ∈ u_ws RX1 TX1 3, w ∈ wsX1_turnRound := by decide +kernel
theorem hf_X1_turnRound_9 : Cond.fieldLink RX1 9 "Pegrow$Row" "things" "[I" ∈ wsX1_turnRound := by decide +kernel
theorem hf_X1_turnRound_15 : Cond.fieldLink RX1 15 "Pegrow$Row" "length" "I" ∈ wsX1_turnRound := by decide +kernel
set_option maxHeartbeats 4000000 in
set_option maxRecDepth 100000 in
theorem c_turnRound (l : Launch) (D : va_G) (cI cP cR : ClassId) (o a n : Nat) (ch : Int32) (f : Nat → Int32) (hn : n ≤ 60) : pw_Mm l yX1_turnRound wsX1_turnRound ({ frames := 1, cells := 0, slots := 0, locals := 23 } : Room) D cI cP cR [.ref o] ([(o, .inr (1, [.ref a, .int (nI n), .int (ch)])), (a, .inl (cI, 60, .inl (f)))]) (fun v w => v = none ∧ w = [(o, .inr (1, [.ref a, .int (nI n), .int (ch)])), (a, .inl (cI, 60, .inl (turF f n)))]) := by
  refine pw_ofm (cc := cX1_turnRound) (maxL := 2) (ret := none) (own := RX1) (by decide +kernel) rfl rfl (Nat.le_of_ble_eq_true rfl) ?_
  intro p_ e_ s m bel meth cd A hE hK hP hD hA hS ls hl
  obtain ⟨hx, hb, hr, hml, hown, hts, hlocks⟩ := hE
  have hNW := hK.2
  have hl : lv_has ls 2 [(0, .ref o)] := hl
  refine lv_iconst (v := nI 0) hx hb dX1_turnRound_0 (by decide) ?_
  refine lv_istore_n (lv' := [(1, .int (nI 0)), (0, .ref o)]) hx hb dX1_turnRound_1 rfl hl (by decide) rfl (fun ls hl => ?_)
  have loop : ∀ (r : Nat), ∀ (i : Nat), i + r = n / 2 → ∀ (H : Heap) (locs : List Loc), va_P D vwCl ([(o, .inr (1, [.ref a, .int (nI n), .int (ch)])), (a, .inl (cI, 60, .inl (turI f n i)))]) H → va_D A ([(o, .inr (1, [.ref a, .int (nI n), .int (ch)])), (a, .inl (cI, 60, .inl (turI f n i)))]) → va_S A s.heap H locs → ∀ ls : Array Slot, lv_has ls 2 [(1, .int (nI i)), (0, .ref o)] → W p_ l e_ ({ frames := 1, cells := 0, slots := 0, locals := 23 } : Room) s m [.ref o].toArray bel meth cd H locs 0 0 (MQ bel (pw_Qm (fun v w => v = none ∧ w = [(o, .inr (1, [.ref a, .int (nI n), .int (ch)])), (a, .inl (cI, 60, .inl (turF f n)))]) D A) [.ref o].toArray s 0 0 A) (F0 m 2 ls []) := by
    intro r
    induction r with
    | zero =>
      intro i hr1 H locs hP hD hS ls hl
      obtain rfl : i = n / 2 := by omega
      rw [turI_e] at hP hD
      refine lv_iload_n hx hb dX1_turnRound_2 rfl (lv_at hl 0 rfl) ?_
      refine lv_aload_n hx hb dX1_turnRound_3 rfl (lv_at hl 1 rfl) ?_
      refine va_get (D := D) (ci := 1) (v := .int (nI n)) (C := RX1) (T := TX1) (N := 3) hx hb hts hi_X1_turnRound_1 hown hK.1 hP 0 rfl rfl 1 (by decide) (hts _ hf_X1_turnRound_15) (fun _ h9 => h9) rfl dX1_turnRound_4 ?_
      refine lv_iconst (v := nI 2) hx hb dX1_turnRound_7 (by decide) ?_
      refine lv_idiv hx hb dX1_turnRound_8 (by decide) ?_
      refine pw_top (y := nI (n / 2)) (pk_div (by omega) (by decide) (by decide)) ?_
      refine pw_icmp_ge (tgt := 42) hx hb (by omega) (by omega) dX1_turnRound_9 (by decide) (fun c_1 => ?_) (fun c_1 => ?_)
      · have _h := c_1
        exact pw_vret hx hb hr hlocks dX1_turnRound_42 hS hP hD (⟨rfl, rfl⟩)
      · exact absurd c_1 (by omega)
    | succ r ih =>
      intro i hr1 H locs hP hD hS ls hl
      refine lv_iload_n hx hb dX1_turnRound_2 rfl (lv_at hl 0 rfl) ?_
      refine lv_aload_n hx hb dX1_turnRound_3 rfl (lv_at hl 1 rfl) ?_
      refine va_get (D := D) (ci := 1) (v := .int (nI n)) (C := RX1) (T := TX1) (N := 3) hx hb hts hi_X1_turnRound_1 hown hK.1 hP 0 rfl rfl 1 (by decide) (hts _ hf_X1_turnRound_15) (fun _ h9 => h9) rfl dX1_turnRound_4 ?_
      refine lv_iconst (v := nI 2) hx hb dX1_turnRound_7 (by decide) ?_
      refine lv_idiv hx hb dX1_turnRound_8 (by decide) ?_
      refine pw_top (y := nI (n / 2)) (pk_div (by omega) (by decide) (by decide)) ?_
      refine pw_icmp_ge (tgt := 42) hx hb (by omega) (by omega) dX1_turnRound_9 (by decide) (fun c_2 => ?_) (fun c_2 => ?_)
      · exact absurd c_2 (by omega)
      · have _h := c_2
        refine lv_aload_n hx hb dX1_turnRound_12 rfl (lv_at hl 1 rfl) ?_
        refine va_get (D := D) (ci := 1) (v := .ref a) (C := RX1) (T := TX1) (N := 3) hx hb hts hi_X1_turnRound_1 hown hK.1 hP 0 rfl rfl 0 (by decide) (hts _ hf_X1_turnRound_9) (fun _ h9 => h9) rfl dX1_turnRound_13 ?_
        refine lv_iload_n hx hb dX1_turnRound_16 rfl (lv_at hl 0 rfl) ?_
        refine lv_aload_n hx hb dX1_turnRound_17 rfl (lv_at hl 1 rfl) ?_
        refine lv_aload_n hx hb dX1_turnRound_18 rfl (lv_at hl 1 rfl) ?_
        refine va_get (D := D) (ci := 1) (v := .int (nI n)) (C := RX1) (T := TX1) (N := 3) hx hb hts hi_X1_turnRound_1 hown hK.1 hP 0 rfl rfl 1 (by decide) (hts _ hf_X1_turnRound_15) (fun _ h9 => h9) rfl dX1_turnRound_19 ?_
        refine lv_iconst (v := nI 1) hx hb dX1_turnRound_22 (by decide) ?_
        refine pw_isub hx hb (by omega) dX1_turnRound_23 ?_
        refine lv_iload_n hx hb dX1_turnRound_24 rfl (lv_at hl 0 rfl) ?_
        refine pw_isub hx hb (by omega) dX1_turnRound_25 ?_
        refine lv_aload_n hx hb dX1_turnRound_26 rfl (lv_at hl 1 rfl) ?_
        refine va_get (D := D) (ci := 1) (v := .ref a) (C := RX1) (T := TX1) (N := 3) hx hb hts hi_X1_turnRound_1 hown hK.1 hP 0 rfl rfl 0 (by decide) (hts _ hf_X1_turnRound_9) (fun _ h9 => h9) rfl dX1_turnRound_27 ?_
        refine lv_iload_n hx hb dX1_turnRound_30 rfl (lv_at hl 0 rfl) ?_
        refine pw_iald hx hb hK.1 hP 1 0 rfl rfl (by decide) (by omega) dX1_turnRound_31 ?_
        -- c_layAt
        refine pw_cVm (As := [.int (nI ((n - 1) - i)), .int ((turI f n i) i)]) (rest := [.int (nI i), .ref a]) (wc := [(o, .inr (1, [.ref a, .int (nI n), .int (ch)])), (a, .inl (cI, 60, .inl (turI f n i)))]) (wr := []) ⟨hx, hb, hml, hown, hts⟩ (c_layAt l D cI cP cR o a n ch (turI f n i) (n - 1 - i) (turI f n i i) (by omega)) (cwV 2 hts gX1_turnRound_X1_layAt rfl rfl rfl (by decide +kernel) ⟨Nat.le_of_ble_eq_true rfl, Nat.le_of_ble_eq_true rfl⟩) hK hP hD hS hA [0, 1] [] rfl rfl (by decide) (by decide) (by decide) 0 rfl rfl rfl rfl hl.1 rfl (Nat.le_of_ble_eq_true rfl) dX1_turnRound_32 ⟨Nat.zero_le _, Nat.zero_le _⟩ (fun v1 w1 H locs hq hP hD hS => ?_)
        rcases hq with ⟨rfl, rfl⟩
        have hP : va_P D vwCl ([(o, .inr (1, [.ref a, .int (nI n), .int (ch)])), (a, .inl (cI, 60, .inl (upd (turI f n i) (n - 1 - i) (turI f n i i))))]) H := hP
        have hD : va_D A ([(o, .inr (1, [.ref a, .int (nI n), .int (ch)])), (a, .inl (cI, 60, .inl (upd (turI f n i) (n - 1 - i) (turI f n i i))))]) := hD
        refine W.eq (g2 := F0 m 35 ls [.int (turI f n i (n - 1 - i)), .int (nI i), .ref a]) rfl ?_
        refine pw_iast hx hb hK.1 hP hD hS 1 0 rfl rfl (by decide) (by omega) dX1_turnRound_35 (fun H locs hP hD hS => ?_)
        have hP : va_P D vwCl ([(o, .inr (1, [.ref a, .int (nI n), .int (ch)])), (a, .inl (cI, 60, .inl (upd (upd (turI f n i) (n - 1 - i) (turI f n i i)) i (turI f n i (n - 1 - i)))))]) H := hP
        have hD : va_D A ([(o, .inr (1, [.ref a, .int (nI n), .int (ch)])), (a, .inl (cI, 60, .inl (upd (upd (turI f n i) (n - 1 - i) (turI f n i i)) i (turI f n i (n - 1 - i)))))]) := hD
        refine lv_iinc (v := nI (i + 1)) (lv' := [(1, .int (nI (i + 1))), (0, .ref o)]) hx hb dX1_turnRound_36 hl (k := 0) rfl (pw_inc _ 1) (by decide) rfl (fun ls hl => ?_)
        refine lv_goto (tgt := 2) hx hb dX1_turnRound_39 (by decide) ?_
        rw [turI_s f n i (by omega)] at hP hD
        exact ih (i + 1) (by omega) H locs hP hD hS ls hl
  exact loop (n / 2) 0 (by omega) s.heap [] (by rw [turI_0]; exact hP) (by rw [turI_0]; exact hD) hS ls hl
theorem hmn_1 : Cond.methodLink RX1 34 Lib.Math.min.name ∈ wsX1_weaveIn := by decide +kernel
theorem hmn_2 : Cond.static Lib.Math.min.name ∈ wsX1_weaveIn := by decide +kernel
theorem hmn_3 : Cond.initialized "java/lang/Math" ∈ wsX1_weaveIn := by decide +kernel
theorem hmn_4 : Cond.code Lib.Math.min.name Lib.Math.min.code 2 (some .int) ∈ wsX1_weaveIn := by decide +kernel
theorem hi_X1_weaveIn_1 : ∀ w ∈ u_ws RX1 TX1 3, w ∈ wsX1_weaveIn := by decide +kernel
theorem hf_X1_weaveIn_9 : Cond.fieldLink RX1 9 "Pegrow$Row" "things" "[I" ∈ wsX1_weaveIn := by decide +kernel
theorem hf_X1_weaveIn_15 : Cond.fieldLink RX1 15 "Pegrow$Row" "length" "I" ∈ wsX1_weaveIn := by decide +kernel
set_option maxHeartbeats 4000000 in
set_option maxRecDepth 100000 in
theorem c_weaveIn (l : Launch) (D : va_G) (cI cP cR : ClassId) (o a n : Nat) (ch : Int32) (f : Nat → Int32) (o2 a2 n2 : Nat) (ch2 : Int32) (g : Nat → Int32) (hn : n ≤ 60) (hn2 : n2 ≤ 60) (hk : n + n2 ≤ 60) : pw_Mm l yX1_weaveIn wsX1_weaveIn ({ frames := 1, cells := 0, slots := 0, locals := 23 } : Room) D cI cP cR [.ref o, .ref o2] ([(o, .inr (1, [.ref a, .int (nI n), .int (ch)])), (a, .inl (cI, 60, .inl (f))), (o2, .inr (1, [.ref a2, .int (nI n2), .int (ch2)])), (a2, .inl (cI, 60, .inl (g)))]) (fun v w => v = none ∧ w = [(o, .inr (1, [.ref a, .int (nI (n + n2)), .int (ch + nI 1)])), (a, .inl (cI, 60, .inl (wvF f g n n2))), (o2, .inr (1, [.ref a2, .int (nI n2), .int (ch2)])), (a2, .inl (cI, 60, .inl (g)))]) := by
  refine pw_ofm (cc := cX1_weaveIn) (maxL := 4) (ret := none) (own := RX1) (by decide +kernel) rfl rfl (Nat.le_of_ble_eq_true rfl) ?_
  intro p_ e_ s m bel meth cd A hE hK hP hD hA hS ls hl
  obtain ⟨hx, hb, hr, hml, hown, hts, hlocks⟩ := hE
  have hNW := hK.2
  have hl : lv_has ls 4 [(0, .ref o), (1, .ref o2)] := hl
  refine lv_aload_n hx hb dX1_weaveIn_0 rfl (lv_at hl 0 rfl) ?_
  refine va_get (D := D) (ci := 1) (v := .int (nI n)) (C := RX1) (T := TX1) (N := 3) hx hb hts hi_X1_weaveIn_1 hown hK.1 hP 0 rfl rfl 1 (by decide) (hts _ hf_X1_weaveIn_15) (fun _ h9 => h9) rfl dX1_weaveIn_1 ?_
  refine lv_aload_n hx hb dX1_weaveIn_4 rfl (lv_at hl 1 rfl) ?_
  refine va_get (D := D) (ci := 1) (v := .int (nI n2)) (C := RX1) (T := TX1) (N := 3) hx hb hts hi_X1_weaveIn_1 hown hK.1 hP 2 rfl rfl 1 (by decide) (hts _ hf_X1_weaveIn_15) (fun _ h9 => h9) rfl dX1_weaveIn_5 ?_
  refine va_mmin hx hb (hml.trans hl.1.symm) hown (hts _ hmn_1) (hts _ hmn_2) (hts _ hmn_3) (hts _ hmn_4) (by decide) (by decide) (Nat.zero_le _) (Nat.zero_le _) dX1_weaveIn_8 ?_
  obtain ⟨p, hp⟩ : ∃ p, min n n2 = p := ⟨_, rfl⟩
  refine pw_top (y := nI p) ((pw_min (by omega) (by omega)).trans (by rw [hp])) ?_
  refine lv_istore_n (lv' := [(2, .int (nI p)), (0, .ref o), (1, .ref o2)]) hx hb dX1_weaveIn_11 rfl hl (by decide) rfl (fun ls hl => ?_)
  refine lv_aload_n hx hb dX1_weaveIn_12 rfl (lv_at hl 1 rfl) ?_
  refine lv_iload_n hx hb dX1_weaveIn_13 rfl (lv_at hl 0 rfl) ?_
  refine lv_aload_n hx hb dX1_weaveIn_14 rfl (lv_at hl 2 rfl) ?_
  refine va_get (D := D) (ci := 1) (v := .int (nI n2)) (C := RX1) (T := TX1) (N := 3) hx hb hts hi_X1_weaveIn_1 hown hK.1 hP 2 rfl rfl 1 (by decide) (hts _ hf_X1_weaveIn_15) (fun _ h9 => h9) rfl dX1_weaveIn_15 ?_
  -- c_openAt
  refine pw_cVm (As := [.int (nI p), .int (nI n2)]) (rest := []) (wc := [(o, .inr (1, [.ref a, .int (nI n), .int (ch)])), (a, .inl (cI, 60, .inl (f)))]) (wr := [(o2, .inr (1, [.ref a2, .int (nI n2), .int (ch2)])), (a2, .inl (cI, 60, .inl (g)))]) ⟨hx, hb, hml, hown, hts⟩ (c_openAt l D cI cP cR o a n ch f p n2 (by omega) (by omega) hk) (cwV 2 hts gX1_weaveIn_X1_openAt rfl rfl rfl (by decide +kernel) ⟨Nat.le_of_ble_eq_true rfl, Nat.le_of_ble_eq_true rfl⟩) hK hP hD hS hA [0, 1] [2, 3] rfl rfl (by decide) (by decide) (by decide) 0 rfl rfl rfl rfl hl.1 rfl (Nat.le_of_ble_eq_true rfl) dX1_weaveIn_18 ⟨Nat.zero_le _, Nat.zero_le _⟩ (fun v1 w1 H locs hq hP hD hS => ?_)
  rcases hq with ⟨rfl, rfl⟩
  have hP : va_P D vwCl ([(o2, .inr (1, [.ref a2, .int (nI n2), .int (ch2)])), (a2, .inl (cI, 60, .inl (g))), (o, .inr (1, [.ref a, .int (nI (n + n2)), .int (ch + nI 1)])), (a, .inl (cI, 60, .inl (opn f p n2 n)))]) H := hP
  have hD : va_D A ([(o2, .inr (1, [.ref a2, .int (nI n2), .int (ch2)])), (a2, .inl (cI, 60, .inl (g))), (o, .inr (1, [.ref a, .int (nI (n + n2)), .int (ch + nI 1)])), (a, .inl (cI, 60, .inl (opn f p n2 n)))]) := hD
  refine W.eq (g2 := F0 m 21 ls []) rfl ?_
  refine lv_iload_n hx hb dX1_weaveIn_21 rfl (lv_at hl 0 rfl) ?_
  refine lv_istore_n (lv' := [(3, .int (nI p)), (2, .int (nI p)), (0, .ref o), (1, .ref o2)]) hx hb dX1_weaveIn_22 rfl hl (by decide) rfl (fun ls hl => ?_)
  have loop : ∀ (r : Nat), ∀ (i : Nat), i + r = n2 → p ≤ i → ∀ (H : Heap) (locs : List Loc), va_P D vwCl ([(o2, .inr (1, [.ref a2, .int (nI n2), .int (ch2)])), (a2, .inl (cI, 60, .inl (g))), (o, .inr (1, [.ref a, .int (nI (n + n2)), .int (ch + nI 1)])), (a, .inl (cI, 60, .inl (putG (opn f p n2 n) p g p i)))]) H → va_D A ([(o2, .inr (1, [.ref a2, .int (nI n2), .int (ch2)])), (a2, .inl (cI, 60, .inl (g))), (o, .inr (1, [.ref a, .int (nI (n + n2)), .int (ch + nI 1)])), (a, .inl (cI, 60, .inl (putG (opn f p n2 n) p g p i)))]) → va_S A s.heap H locs → ∀ ls : Array Slot, lv_has ls 4 [(3, .int (nI i)), (2, .int (nI p)), (0, .ref o), (1, .ref o2)] → W p_ l e_ ({ frames := 1, cells := 0, slots := 0, locals := 23 } : Room) s m [.ref o, .ref o2].toArray bel meth cd H locs 0 0 (MQ bel (pw_Qm (fun v w => v = none ∧ w = [(o, .inr (1, [.ref a, .int (nI (n + n2)), .int (ch + nI 1)])), (a, .inl (cI, 60, .inl (wvF f g n n2))), (o2, .inr (1, [.ref a2, .int (nI n2), .int (ch2)])), (a2, .inl (cI, 60, .inl (g)))]) D A) [.ref o, .ref o2].toArray s 0 0 A) (F0 m 23 ls []) := by
    intro r
    induction r with
    | zero =>
      intro i hr1 hr2 H locs hP hD hS ls hl
      obtain rfl : n2 = i := by omega
      refine lv_iload_n hx hb dX1_weaveIn_23 rfl (lv_at hl 0 rfl) ?_
      refine lv_aload_n hx hb dX1_weaveIn_24 rfl (lv_at hl 3 rfl) ?_
      refine va_get (D := D) (ci := 1) (v := .int (nI n2)) (C := RX1) (T := TX1) (N := 3) hx hb hts hi_X1_weaveIn_1 hown hK.1 hP 0 rfl rfl 1 (by decide) (hts _ hf_X1_weaveIn_15) (fun _ h9 => h9) rfl dX1_weaveIn_25 ?_
      refine pw_icmp_ge (tgt := 51) hx hb (by omega) (by omega) dX1_weaveIn_28 (by decide) (fun c_1 => ?_) (fun c_1 => ?_)
      · have _h := c_1
        refine lv_iload_n hx hb dX1_weaveIn_51 rfl (lv_at hl 1 rfl) ?_
        refine lv_iconst (v := nI 1) hx hb dX1_weaveIn_52 (by decide) ?_
        refine lv_isub hx hb dX1_weaveIn_53 ?_
        refine lv_istore_n (lv' := [(3, .int ((nI p) - (nI 1))), (2, .int (nI p)), (0, .ref o), (1, .ref o2)]) hx hb dX1_weaveIn_54 rfl hl (by decide) rfl (fun ls hl => ?_)
        have loop2 : ∀ (k : Nat), k ≤ p → ∀ (x3 : Int32), x3 = nI k - 1 → ∀ (H : Heap) (locs : List Loc), va_P D vwCl ([(o2, .inr (1, [.ref a2, .int (nI n2), .int (ch2)])), (a2, .inl (cI, 60, .inl (g))), (o, .inr (1, [.ref a, .int (nI (n + n2)), .int (ch + nI 1)])), (a, .inl (cI, 60, .inl (w2F (putG (opn f p n2 n) p g p n2) f g p k)))]) H → va_D A ([(o2, .inr (1, [.ref a2, .int (nI n2), .int (ch2)])), (a2, .inl (cI, 60, .inl (g))), (o, .inr (1, [.ref a, .int (nI (n + n2)), .int (ch + nI 1)])), (a, .inl (cI, 60, .inl (w2F (putG (opn f p n2 n) p g p n2) f g p k)))]) → va_S A s.heap H locs → ∀ ls : Array Slot, lv_has ls 4 [(3, .int (x3)), (2, .int (nI p)), (0, .ref o), (1, .ref o2)] → W p_ l e_ ({ frames := 1, cells := 0, slots := 0, locals := 23 } : Room) s m [.ref o, .ref o2].toArray bel meth cd H locs 0 0 (MQ bel (pw_Qm (fun v w => v = none ∧ w = [(o, .inr (1, [.ref a, .int (nI (n + n2)), .int (ch + nI 1)])), (a, .inl (cI, 60, .inl (wvF f g n n2))), (o2, .inr (1, [.ref a2, .int (nI n2), .int (ch2)])), (a2, .inl (cI, 60, .inl (g)))]) D A) [.ref o, .ref o2].toArray s 0 0 A) (F0 m 55 ls []) := by
          intro k
          induction k with
          | zero =>
            intro hr1 x3 ex3 H locs hP hD hS ls hl
            subst ex3
            refine lv_iload_n hx hb dX1_weaveIn_55 rfl (lv_at hl 0 rfl) ?_
            refine lv_if_lt (tgt := 95) hx hb dX1_weaveIn_56 (by decide) (fun c_2 => ?_) (fun c_2 => ?_)
            · have _h := c_2
              have hP := hP.sub (ws' := [(o, .inr (1, [.ref a, .int (nI (n + n2)), .int (ch + nI 1)])), (a, .inl (cI, 60, .inl (w2F (putG (opn f p n2 n) p g p n2) f g p 0))), (o2, .inr (1, [.ref a2, .int (nI n2), .int (ch2)])), (a2, .inl (cI, 60, .inl (g)))]) [2, 3, 0, 1] rfl
              have hD := hD.sub (ws' := [(o, .inr (1, [.ref a, .int (nI (n + n2)), .int (ch + nI 1)])), (a, .inl (cI, 60, .inl (w2F (putG (opn f p n2 n) p g p n2) f g p 0))), (o2, .inr (1, [.ref a2, .int (nI n2), .int (ch2)])), (a2, .inl (cI, 60, .inl (g)))]) [2, 3, 0, 1] (by decide) rfl
              exact pw_vret hx hb hr hlocks dX1_weaveIn_95 hS hP hD (⟨rfl, by subst hp; rfl⟩)
            · exact absurd ((pw_m1neg (by omega)).mpr rfl) c_2
          | succ k ih =>
            intro hr1 x3 ex3 H locs hP hD hS ls hl
            have ex3 : x3 = nI k := by rw [ex3, nI_pred]
            subst ex3
            refine lv_iload_n hx hb dX1_weaveIn_55 rfl (lv_at hl 0 rfl) ?_
            refine pw_if_lt (tgt := 95) hx hb (by omega) dX1_weaveIn_56 (by decide) ?_
            refine lv_aload_n hx hb dX1_weaveIn_59 rfl (lv_at hl 2 rfl) ?_
            refine va_get (D := D) (ci := 1) (v := .ref a) (C := RX1) (T := TX1) (N := 3) hx hb hts hi_X1_weaveIn_1 hown hK.1 hP 2 rfl rfl 0 (by decide) (hts _ hf_X1_weaveIn_9) (fun _ h9 => h9) rfl dX1_weaveIn_60 ?_
            refine lv_iconst (v := nI 2) hx hb dX1_weaveIn_63 (by decide) ?_
            refine lv_iload_n hx hb dX1_weaveIn_64 rfl (lv_at hl 0 rfl) ?_
            refine pw_imul hx hb dX1_weaveIn_65 ?_
            refine lv_iconst (v := nI 1) hx hb dX1_weaveIn_66 (by decide) ?_
            refine pw_iadd hx hb dX1_weaveIn_67 ?_
            refine lv_aload_n hx hb dX1_weaveIn_68 rfl (lv_at hl 3 rfl) ?_
            refine va_get (D := D) (ci := 1) (v := .ref a2) (C := RX1) (T := TX1) (N := 3) hx hb hts hi_X1_weaveIn_1 hown hK.1 hP 0 rfl rfl 0 (by decide) (hts _ hf_X1_weaveIn_9) (fun _ h9 => h9) rfl dX1_weaveIn_69 ?_
            refine lv_iload_n hx hb dX1_weaveIn_72 rfl (lv_at hl 0 rfl) ?_
            refine pw_iald hx hb hK.1 hP 1 0 rfl rfl (by decide) (by omega) dX1_weaveIn_73 ?_
            refine pw_iast hx hb hK.1 hP hD hS 3 0 rfl rfl (by decide) (by omega) dX1_weaveIn_74 (fun H locs hP hD hS => ?_)
            have hP : va_P D vwCl ([(o2, .inr (1, [.ref a2, .int (nI n2), .int (ch2)])), (a2, .inl (cI, 60, .inl (g))), (o, .inr (1, [.ref a, .int (nI (n + n2)), .int (ch + nI 1)])), (a, .inl (cI, 60, .inl (upd (w2F (putG (opn f p n2 n) p g p n2) f g p (k + 1)) ((2 * k) + 1) (g k))))]) H := hP
            have hD : va_D A ([(o2, .inr (1, [.ref a2, .int (nI n2), .int (ch2)])), (a2, .inl (cI, 60, .inl (g))), (o, .inr (1, [.ref a, .int (nI (n + n2)), .int (ch + nI 1)])), (a, .inl (cI, 60, .inl (upd (w2F (putG (opn f p n2 n) p g p n2) f g p (k + 1)) ((2 * k) + 1) (g k))))]) := hD
            refine lv_aload_n hx hb dX1_weaveIn_75 rfl (lv_at hl 2 rfl) ?_
            refine va_get (D := D) (ci := 1) (v := .ref a) (C := RX1) (T := TX1) (N := 3) hx hb hts hi_X1_weaveIn_1 hown hK.1 hP 2 rfl rfl 0 (by decide) (hts _ hf_X1_weaveIn_9) (fun _ h9 => h9) rfl dX1_weaveIn_76 ?_
            refine lv_iconst (v := nI 2) hx hb dX1_weaveIn_79 (by decide) ?_
            refine lv_iload_n hx hb dX1_weaveIn_80 rfl (lv_at hl 0 rfl) ?_
            refine pw_imul hx hb dX1_weaveIn_81 ?_
            refine lv_aload_n hx hb dX1_weaveIn_82 rfl (lv_at hl 2 rfl) ?_
            refine va_get (D := D) (ci := 1) (v := .ref a) (C := RX1) (T := TX1) (N := 3) hx hb hts hi_X1_weaveIn_1 hown hK.1 hP 2 rfl rfl 0 (by decide) (hts _ hf_X1_weaveIn_9) (fun _ h9 => h9) rfl dX1_weaveIn_83 ?_
            refine lv_iload_n hx hb dX1_weaveIn_86 rfl (lv_at hl 0 rfl) ?_
            refine pw_iald hx hb hK.1 hP 3 0 rfl rfl (by decide) (by omega) dX1_weaveIn_87 ?_
            refine pw_iast hx hb hK.1 hP hD hS 3 0 rfl rfl (by decide) (by omega) dX1_weaveIn_88 (fun H locs hP hD hS => ?_)
            have hP : va_P D vwCl ([(o2, .inr (1, [.ref a2, .int (nI n2), .int (ch2)])), (a2, .inl (cI, 60, .inl (g))), (o, .inr (1, [.ref a, .int (nI (n + n2)), .int (ch + nI 1)])), (a, .inl (cI, 60, .inl (upd (upd (w2F (putG (opn f p n2 n) p g p n2) f g p (k + 1)) ((2 * k) + 1) (g k)) (2 * k) ((upd (w2F (putG (opn f p n2 n) p g p n2) f g p (k + 1)) ((2 * k) + 1) (g k)) k))))]) H := hP
            have hD : va_D A ([(o2, .inr (1, [.ref a2, .int (nI n2), .int (ch2)])), (a2, .inl (cI, 60, .inl (g))), (o, .inr (1, [.ref a, .int (nI (n + n2)), .int (ch + nI 1)])), (a, .inl (cI, 60, .inl (upd (upd (w2F (putG (opn f p n2 n) p g p n2) f g p (k + 1)) ((2 * k) + 1) (g k)) (2 * k) ((upd (w2F (putG (opn f p n2 n) p g p n2) f g p (k + 1)) ((2 * k) + 1) (g k)) k))))]) := hD
            refine lv_iinc (v := nI k + Int32.ofInt (-1)) (lv' := [(3, .int (nI k + Int32.ofInt (-1))), (2, .int (nI p)), (0, .ref o), (1, .ref o2)]) hx hb dX1_weaveIn_89 hl (k := 0) rfl (rfl) (by decide) rfl (fun ls hl => ?_)
            refine lv_goto (tgt := 55) hx hb dX1_weaveIn_92 (by decide) ?_
            rw [w2F_s _ f g p k (by omega) (by unfold putG opn; rw [if_neg (by omega), if_neg (by omega)])] at hP hD
            exact ih (by omega) _ (pw_dec _) H locs hP hD hS ls hl
        exact loop2 p (Nat.le_refl p) _ (by rw [pw_n1]) H _ (by rw [w2F_e]; exact hP) (by rw [w2F_e]; exact hD) hS ls hl
      · exact absurd c_1 (by omega)
    | succ r ih =>
      intro i hr1 hr2 H locs hP hD hS ls hl
      refine lv_iload_n hx hb dX1_weaveIn_23 rfl (lv_at hl 0 rfl) ?_
      refine lv_aload_n hx hb dX1_weaveIn_24 rfl (lv_at hl 3 rfl) ?_
      refine va_get (D := D) (ci := 1) (v := .int (nI n2)) (C := RX1) (T := TX1) (N := 3) hx hb hts hi_X1_weaveIn_1 hown hK.1 hP 0 rfl rfl 1 (by decide) (hts _ hf_X1_weaveIn_15) (fun _ h9 => h9) rfl dX1_weaveIn_25 ?_
      refine pw_icmp_ge (tgt := 51) hx hb (by omega) (by omega) dX1_weaveIn_28 (by decide) (fun c_3 => ?_) (fun c_3 => ?_)
      · exact absurd c_3 (by omega)
      · have _h := c_3
        refine lv_aload_n hx hb dX1_weaveIn_31 rfl (lv_at hl 2 rfl) ?_
        refine va_get (D := D) (ci := 1) (v := .ref a) (C := RX1) (T := TX1) (N := 3) hx hb hts hi_X1_weaveIn_1 hown hK.1 hP 2 rfl rfl 0 (by decide) (hts _ hf_X1_weaveIn_9) (fun _ h9 => h9) rfl dX1_weaveIn_32 ?_
        refine lv_iload_n hx hb dX1_weaveIn_35 rfl (lv_at hl 1 rfl) ?_
        refine lv_iload_n hx hb dX1_weaveIn_36 rfl (lv_at hl 0 rfl) ?_
        refine pw_iadd hx hb dX1_weaveIn_37 ?_
        refine lv_aload_n hx hb dX1_weaveIn_38 rfl (lv_at hl 3 rfl) ?_
        refine va_get (D := D) (ci := 1) (v := .ref a2) (C := RX1) (T := TX1) (N := 3) hx hb hts hi_X1_weaveIn_1 hown hK.1 hP 0 rfl rfl 0 (by decide) (hts _ hf_X1_weaveIn_9) (fun _ h9 => h9) rfl dX1_weaveIn_39 ?_
        refine lv_iload_n hx hb dX1_weaveIn_42 rfl (lv_at hl 0 rfl) ?_
        refine pw_iald hx hb hK.1 hP 1 0 rfl rfl (by decide) (by omega) dX1_weaveIn_43 ?_
        refine pw_iast hx hb hK.1 hP hD hS 3 0 rfl rfl (by decide) (by omega) dX1_weaveIn_44 (fun H locs hP hD hS => ?_)
        have hP : va_P D vwCl ([(o2, .inr (1, [.ref a2, .int (nI n2), .int (ch2)])), (a2, .inl (cI, 60, .inl (g))), (o, .inr (1, [.ref a, .int (nI (n + n2)), .int (ch + nI 1)])), (a, .inl (cI, 60, .inl (upd (putG (opn f p n2 n) p g p i) (p + i) (g i))))]) H := hP
        have hD : va_D A ([(o2, .inr (1, [.ref a2, .int (nI n2), .int (ch2)])), (a2, .inl (cI, 60, .inl (g))), (o, .inr (1, [.ref a, .int (nI (n + n2)), .int (ch + nI 1)])), (a, .inl (cI, 60, .inl (upd (putG (opn f p n2 n) p g p i) (p + i) (g i))))]) := hD
        refine lv_iinc (v := nI (i + 1)) (lv' := [(3, .int (nI (i + 1))), (2, .int (nI p)), (0, .ref o), (1, .ref o2)]) hx hb dX1_weaveIn_45 hl (k := 0) rfl (pw_inc _ 1) (by decide) rfl (fun ls hl => ?_)
        refine lv_goto (tgt := 23) hx hb dX1_weaveIn_48 (by decide) ?_
        rw [putG_s _ _ _ _ _ (by omega)] at hP hD
        exact ih (i + 1) (by omega) (by omega) H locs hP hD hS ls hl
  exact loop (n2 - p) p (by omega) (by omega) H _ (by rw [putG_0]; exact hP) (by rw [putG_0]; exact hD) hS ls hl
theorem hi_X1_takeRepeats_1 : ∀ w ∈ u_ws RX1 TX1 3, w ∈ wsX1_takeRepeats := by decide +kernel
theorem hf_X1_takeRepeats_9 : Cond.fieldLink RX1 9 "Pegrow$Row" "things" "[I" ∈ wsX1_takeRepeats := by decide +kernel
theorem hf_X1_takeRepeats_15 : Cond.fieldLink RX1 15 "Pegrow$Row" "length" "I" ∈ wsX1_takeRepeats := by decide +kernel
set_option maxHeartbeats 4000000 in
set_option maxRecDepth 100000 in
theorem c_takeRepeats (l : Launch) (D : va_G) (cI cP cR : ClassId) (o a n : Nat) (ch : Int32) (f : Nat → Int32) (hn : n ≤ 60) : pw_Mm l yX1_takeRepeats wsX1_takeRepeats ({ frames := 1, cells := 0, slots := 0, locals := 21 } : Room) D cI cP cR [.ref o] ([(o, .inr (1, [.ref a, .int (nI n), .int (ch)])), (a, .inl (cI, 60, .inl (f)))]) (fun v w => v = some (.int (nI (n - (prF f n).1))) ∧ w = [(o, .inr (1, [.ref a, .int (nI ((prF f n).1)), .int (if (prF f n).1 = n then ch else ch + nI 1)])), (a, .inl (cI, 60, .inl ((prF f n).2.2)))]) := by
  refine pw_ofm (cc := cX1_takeRepeats) (maxL := 6) (ret := (some .int)) (own := RX1) (by decide +kernel) rfl rfl (Nat.le_of_ble_eq_true rfl) ?_
  intro p_ e_ s m bel meth cd A hE hK hP hD hA hS ls hl
  obtain ⟨hx, hb, hr, hml, hown, hts, hlocks⟩ := hE
  have hNW := hK.2
  have hl : lv_has ls 6 [(0, .ref o)] := hl
  refine lv_aload_n hx hb dX1_takeRepeats_0 rfl (lv_at hl 0 rfl) ?_
  refine va_get (D := D) (ci := 1) (v := .int (nI n)) (C := RX1) (T := TX1) (N := 3) hx hb hts hi_X1_takeRepeats_1 hown hK.1 hP 0 rfl rfl 1 (by decide) (hts _ hf_X1_takeRepeats_15) (fun _ h9 => h9) rfl dX1_takeRepeats_1 ?_
  refine lv_istore_n (lv' := [(1, .int (nI n)), (0, .ref o)]) hx hb dX1_takeRepeats_4 rfl hl (by decide) rfl (fun ls hl => ?_)
  refine lv_iconst (v := nI 0) hx hb dX1_takeRepeats_5 (by decide) ?_
  refine lv_istore_n (lv' := [(2, .int (nI 0)), (1, .int (nI n)), (0, .ref o)]) hx hb dX1_takeRepeats_6 rfl hl (by decide) rfl (fun ls hl => ?_)
  refine lv_iconst (v := nI 0) hx hb dX1_takeRepeats_7 (by decide) ?_
  refine lv_istore_n (lv' := [(3, .int (nI 0)), (2, .int (nI 0)), (1, .int (nI n)), (0, .ref o)]) hx hb dX1_takeRepeats_8 rfl hl (by decide) rfl (fun ls hl => ?_)
  refine lv_iconst (v := nI 0) hx hb dX1_takeRepeats_9 (by decide) ?_
  refine lv_istore (lv' := [(4, .int (nI 0)), (3, .int (nI 0)), (2, .int (nI 0)), (1, .int (nI n)), (0, .ref o)]) hx hb dX1_takeRepeats_10 hl (by decide) rfl (fun ls hl => ?_)
  have loop : ∀ (r : Nat), ∀ (i : Nat), i + r = n → ∀ (kp : Nat) (ms : Int32) (F : Nat → Int32), prF f i = (kp, ms, F) → ∀ (H : Heap) (locs : List Loc), va_P D vwCl ([(o, .inr (1, [.ref a, .int (nI n), .int (ch)])), (a, .inl (cI, 60, .inl (F)))]) H → va_D A ([(o, .inr (1, [.ref a, .int (nI n), .int (ch)])), (a, .inl (cI, 60, .inl (F)))]) → va_S A s.heap H locs → ∀ ls : Array Slot, lv_has ls 6 [(4, .int (nI i)), (3, .int (ms)), (2, .int (nI kp)), (1, .int (nI n)), (0, .ref o)] → W p_ l e_ ({ frames := 1, cells := 0, slots := 0, locals := 21 } : Room) s m [.ref o].toArray bel meth cd H locs 0 0 (MQ bel (pw_Qm (fun v w => v = some (.int (nI (n - (prF f n).1))) ∧ w = [(o, .inr (1, [.ref a, .int (nI ((prF f n).1)), .int (if (prF f n).1 = n then ch else ch + nI 1)])), (a, .inl (cI, 60, .inl ((prF f n).2.2)))]) D A) [.ref o].toArray s 0 0 A) (F0 m 12 ls []) := by
    intro r
    induction r with
    | zero =>
      intro i hr1 kp ms F hpr H locs hP hD hS ls hl
      obtain rfl : n = i := by omega
      have hkp : kp ≤ n := by have h := (prF_le f n).1; rw [hpr] at h; exact h
      refine lv_iload hx hb dX1_takeRepeats_12 (lv_at hl 0 rfl) ?_
      refine lv_iload_n hx hb dX1_takeRepeats_14 rfl (lv_at hl 3 rfl) ?_
      refine pw_icmp_ge (tgt := 66) hx hb (by omega) (by omega) dX1_takeRepeats_15 (by decide) (fun c_1 => ?_) (fun c_1 => ?_)
      · have _h := c_1
        refine lv_aload_n hx hb dX1_takeRepeats_66 rfl (lv_at hl 4 rfl) ?_
        refine lv_iload_n hx hb dX1_takeRepeats_67 rfl (lv_at hl 2 rfl) ?_
        -- c_keepFirst
        refine pw_cVm (As := [.int (nI kp)]) (rest := []) (wc := [(o, .inr (1, [.ref a, .int (nI n), .int (ch)])), (a, .inl (cI, 60, .inl (F)))]) (wr := []) ⟨hx, hb, hml, hown, hts⟩ (c_keepFirst l D cI cP cR o a n ch F kp (by omega) (by omega)) (cwV 1 hts gX1_takeRepeats_X1_keepFirst rfl rfl rfl (by decide +kernel) ⟨Nat.le_of_ble_eq_true rfl, Nat.le_of_ble_eq_true rfl⟩) hK hP hD hS hA [0, 1] [] rfl rfl (by decide) (by decide) (by decide) 0 rfl rfl rfl rfl hl.1 rfl (Nat.le_of_ble_eq_true rfl) dX1_takeRepeats_68 ⟨Nat.zero_le _, Nat.zero_le _⟩ (fun v1 w1 H locs hq hP hD hS => ?_)
        rcases hq with ⟨rfl, rfl⟩
        have hP : va_P D vwCl ([(o, .inr (1, [.ref a, .int (nI kp), .int (if kp = n then ch else ch + nI 1)])), (a, .inl (cI, 60, .inl (F)))]) H := hP
        have hD : va_D A ([(o, .inr (1, [.ref a, .int (nI kp), .int (if kp = n then ch else ch + nI 1)])), (a, .inl (cI, 60, .inl (F)))]) := hD
        refine W.eq (g2 := F0 m 71 ls []) rfl ?_
        refine lv_iload_n hx hb dX1_takeRepeats_71 rfl (lv_at hl 3 rfl) ?_
        refine lv_iload_n hx hb dX1_takeRepeats_72 rfl (lv_at hl 2 rfl) ?_
        refine pw_isub hx hb (by omega) dX1_takeRepeats_73 ?_
        exact pw_iret hx hb hr (rfl) hlocks dX1_takeRepeats_74 hS hP hD (⟨by rw [hpr], by rw [hpr]⟩)
      · exact absurd c_1 (by omega)
    | succ r ih =>
      intro i hr1 kp ms F hpr H locs hP hD hS ls hl
      have hkp : kp ≤ i := by have h := (prF_le f i).1; rw [hpr] at h; exact h
      have eF : F i = f i := by have h := (prF_le f i).2 i (Nat.le_refl i); rw [hpr] at h; exact h
      refine lv_iload hx hb dX1_takeRepeats_12 (lv_at hl 0 rfl) ?_
      refine lv_iload_n hx hb dX1_takeRepeats_14 rfl (lv_at hl 3 rfl) ?_
      refine pw_icmp_ge (tgt := 66) hx hb (by omega) (by omega) dX1_takeRepeats_15 (by decide) (fun c_2 => ?_) (fun c_2 => ?_)
      · exact absurd c_2 (by omega)
      · have _h := c_2
        refine lv_iconst (v := nI 1) hx hb dX1_takeRepeats_18 (by decide) ?_
        refine lv_aload_n hx hb dX1_takeRepeats_19 rfl (lv_at hl 4 rfl) ?_
        refine va_get (D := D) (ci := 1) (v := .ref a) (C := RX1) (T := TX1) (N := 3) hx hb hts hi_X1_takeRepeats_1 hown hK.1 hP 0 rfl rfl 0 (by decide) (hts _ hf_X1_takeRepeats_9) (fun _ h9 => h9) rfl dX1_takeRepeats_20 ?_
        refine lv_iload hx hb dX1_takeRepeats_23 (lv_at hl 0 rfl) ?_
        refine pw_iald hx hb hK.1 hP 1 0 rfl rfl (by decide) (by omega) dX1_takeRepeats_25 ?_
        refine lv_bipush (v := nI 10) hx hb dX1_takeRepeats_26 (by decide) ?_
        refine lv_irem hx hb dX1_takeRepeats_28 (by decide) ?_
        refine lv_ishl hx hb dX1_takeRepeats_29 ?_
        refine lv_istore (lv' := [(5, .int ((nI 1) <<< (((F i) - (F i) / (nI 10) * (nI 10)) &&& 31))), (4, .int (nI i)), (3, .int (ms)), (2, .int (nI kp)), (1, .int (nI n)), (0, .ref o)]) hx hb dX1_takeRepeats_30 hl (by decide) rfl (fun ls hl => ?_)
        refine lv_iload_n hx hb dX1_takeRepeats_32 rfl (lv_at hl 2 rfl) ?_
        refine lv_iload hx hb dX1_takeRepeats_33 (lv_at hl 0 rfl) ?_
        refine lv_iand hx hb dX1_takeRepeats_35 ?_
        refine lv_if_ne (tgt := 60) hx hb dX1_takeRepeats_36 (by decide) (fun c_3 => ?_) (fun c_3 => ?_)
        · have _h := c_3
          refine lv_iinc (v := nI (i + 1)) (lv' := [(4, .int (nI (i + 1))), (5, .int ((nI 1) <<< (((F i) - (F i) / (nI 10) * (nI 10)) &&& 31))), (3, .int (ms)), (2, .int (nI kp)), (1, .int (nI n)), (0, .ref o)]) hx hb dX1_takeRepeats_60 hl (k := 1) rfl (pw_inc _ 1) (by decide) rfl (fun ls hl => ?_)
          refine lv_goto (tgt := 12) hx hb dX1_takeRepeats_63 (by decide) ?_
          have h := c_3
          rw [eF] at h
          exact ih (i + 1) (by omega) _ _ _ (by show (if ((prF f i).2.1 &&& _) = 0 then _ else _) = _; rw [hpr]; exact if_neg h) H locs hP hD hS ls (lv_sub hl [0, 2, 3, 4, 5] rfl)
        · have _h := c_3
          refine lv_iload_n hx hb dX1_takeRepeats_39 rfl (lv_at hl 2 rfl) ?_
          refine lv_iload hx hb dX1_takeRepeats_40 (lv_at hl 0 rfl) ?_
          refine lv_ior hx hb dX1_takeRepeats_42 ?_
          refine lv_istore_n (lv' := [(3, .int (ms ||| ((nI 1) <<< (((F i) - (F i) / (nI 10) * (nI 10)) &&& 31)))), (5, .int ((nI 1) <<< (((F i) - (F i) / (nI 10) * (nI 10)) &&& 31))), (4, .int (nI i)), (2, .int (nI kp)), (1, .int (nI n)), (0, .ref o)]) hx hb dX1_takeRepeats_43 rfl hl (by decide) rfl (fun ls hl => ?_)
          refine lv_aload_n hx hb dX1_takeRepeats_44 rfl (lv_at hl 5 rfl) ?_
          refine va_get (D := D) (ci := 1) (v := .ref a) (C := RX1) (T := TX1) (N := 3) hx hb hts hi_X1_takeRepeats_1 hown hK.1 hP 0 rfl rfl 0 (by decide) (hts _ hf_X1_takeRepeats_9) (fun _ h9 => h9) rfl dX1_takeRepeats_45 ?_
          refine lv_iload_n hx hb dX1_takeRepeats_48 rfl (lv_at hl 3 rfl) ?_
          refine lv_aload_n hx hb dX1_takeRepeats_49 rfl (lv_at hl 5 rfl) ?_
          refine va_get (D := D) (ci := 1) (v := .ref a) (C := RX1) (T := TX1) (N := 3) hx hb hts hi_X1_takeRepeats_1 hown hK.1 hP 0 rfl rfl 0 (by decide) (hts _ hf_X1_takeRepeats_9) (fun _ h9 => h9) rfl dX1_takeRepeats_50 ?_
          refine lv_iload hx hb dX1_takeRepeats_53 (lv_at hl 2 rfl) ?_
          refine pw_iald hx hb hK.1 hP 1 0 rfl rfl (by decide) (by omega) dX1_takeRepeats_55 ?_
          refine pw_iast hx hb hK.1 hP hD hS 1 0 rfl rfl (by decide) (by omega) dX1_takeRepeats_56 (fun H locs hP hD hS => ?_)
          have hP : va_P D vwCl ([(o, .inr (1, [.ref a, .int (nI n), .int (ch)])), (a, .inl (cI, 60, .inl (upd F kp (F i))))]) H := hP
          have hD : va_D A ([(o, .inr (1, [.ref a, .int (nI n), .int (ch)])), (a, .inl (cI, 60, .inl (upd F kp (F i))))]) := hD
          refine lv_iinc (v := nI (kp + 1)) (lv' := [(2, .int (nI (kp + 1))), (3, .int (ms ||| ((nI 1) <<< (((F i) - (F i) / (nI 10) * (nI 10)) &&& 31)))), (5, .int ((nI 1) <<< (((F i) - (F i) / (nI 10) * (nI 10)) &&& 31))), (4, .int (nI i)), (1, .int (nI n)), (0, .ref o)]) hx hb dX1_takeRepeats_57 hl (k := 3) rfl (pw_inc _ 1) (by decide) rfl (fun ls hl => ?_)
          refine lv_iinc (v := nI (i + 1)) (lv' := [(4, .int (nI (i + 1))), (2, .int (nI (kp + 1))), (3, .int (ms ||| ((nI 1) <<< (((F i) - (F i) / (nI 10) * (nI 10)) &&& 31)))), (5, .int ((nI 1) <<< (((F i) - (F i) / (nI 10) * (nI 10)) &&& 31))), (1, .int (nI n)), (0, .ref o)]) hx hb dX1_takeRepeats_60 hl (k := 3) rfl (pw_inc _ 1) (by decide) rfl (fun ls hl => ?_)
          refine lv_goto (tgt := 12) hx hb dX1_takeRepeats_63 (by decide) ?_
          have h := c_3
          rw [eF] at h
          rw [eF] at hP hD hl
          exact ih (i + 1) (by omega) _ _ _ (by show (if ((prF f i).2.1 &&& _) = 0 then _ else _) = _; rw [hpr]; exact if_pos h) H locs hP hD hS ls (lv_sub hl [0, 2, 1, 4, 5] rfl)
  exact loop n 0 (by omega) 0 (nI 0) f rfl s.heap [] hP hD hS ls (lv_sub hl [0, 1, 2, 3, 4] rfl)
theorem hi_X1_number_1 : ∀ w ∈ u_ws RX1 TX1 3, w ∈ wsX1_number := by decide +kernel
theorem hf_X1_number_9 : Cond.fieldLink RX1 9 "Pegrow$Row" "things" "[I" ∈ wsX1_number := by decide +kernel
theorem hf_X1_number_15 : Cond.fieldLink RX1 15 "Pegrow$Row" "length" "I" ∈ wsX1_number := by decide +kernel
set_option maxHeartbeats 4000000 in
set_option maxRecDepth 100000 in
theorem c_number (l : Launch) (D : va_G) (cI cP cR : ClassId) (o a n : Nat) (ch : Int32) (f : Nat → Int32) (hn : n ≤ 60) : pw_Mp l yX1_number wsX1_number ({ frames := 0, cells := 0, slots := 0, locals := 0 } : Room) D cI cP cR [.ref o] ([(o, .inr (1, [.ref a, .int (nI n), .int (ch)])), (a, .inl (cI, 60, .inl (f)))]) (.int (smF f n)) := by
  refine pw_ofp (cc := cX1_number) (maxL := 3) (ret := (some .int)) (own := RX1) (by decide +kernel) rfl rfl (Nat.le_of_ble_eq_true rfl) ?_
  intro p_ e_ s m bel meth cd hE hK hP hD ls hl
  obtain ⟨hx, hb, hr, hml, hown, hts, hlocks⟩ := hE
  have hNW := hK.2
  have hl : lv_has ls 3 [(0, .ref o)] := hl
  refine lv_bipush (v := nI 7) hx hb dX1_number_0 (by decide) ?_
  refine lv_istore_n (lv' := [(1, .int (nI 7)), (0, .ref o)]) hx hb dX1_number_2 rfl hl (by decide) rfl (fun ls hl => ?_)
  refine lv_iconst (v := nI 0) hx hb dX1_number_3 (by decide) ?_
  refine lv_istore_n (lv' := [(2, .int (nI 0)), (1, .int (nI 7)), (0, .ref o)]) hx hb dX1_number_4 rfl hl (by decide) rfl (fun ls hl => ?_)
  have loop : ∀ (r : Nat), ∀ (i : Nat), i + r = n → ∀ (x1 : Int32), x1 = smF f i → ∀ ls : Array Slot, lv_has ls 3 [(2, .int (nI i)), (1, .int (x1)), (0, .ref o)] → W p_ l e_ ({ frames := 0, cells := 0, slots := 0, locals := 0 } : Room) s m [.ref o].toArray bel meth cd s.heap [] 0 0 (MQ bel (pw_Qp (.int (smF f n))) [.ref o].toArray s 0 0 (fun _ => False)) (F0 m 5 ls []) := by
    intro r
    induction r with
    | zero =>
      intro i hr1 x1 ex1 ls hl
      obtain rfl : n = i := by omega
      refine lv_iload_n hx hb dX1_number_5 rfl (lv_at hl 0 rfl) ?_
      refine lv_aload_n hx hb dX1_number_6 rfl (lv_at hl 2 rfl) ?_
      refine va_get (D := D) (ci := 1) (v := .int (nI n)) (C := RX1) (T := TX1) (N := 3) hx hb hts hi_X1_number_1 hown hK.1 hP 0 rfl rfl 1 (by decide) (hts _ hf_X1_number_15) (fun _ h9 => h9) rfl dX1_number_7 ?_
      refine pw_icmp_ge (tgt := 34) hx hb (by omega) (by omega) dX1_number_10 (by decide) (fun c_1 => ?_) (fun c_1 => ?_)
      · have _h := c_1
        refine lv_iload_n hx hb dX1_number_34 rfl (lv_at hl 1 rfl) ?_
        exact pw_piret hx hb hr (rfl) hlocks dX1_number_35 (by rw [ex1])
      · exact absurd c_1 (by omega)
    | succ r ih =>
      intro i hr1 x1 ex1 ls hl
      refine lv_iload_n hx hb dX1_number_5 rfl (lv_at hl 0 rfl) ?_
      refine lv_aload_n hx hb dX1_number_6 rfl (lv_at hl 2 rfl) ?_
      refine va_get (D := D) (ci := 1) (v := .int (nI n)) (C := RX1) (T := TX1) (N := 3) hx hb hts hi_X1_number_1 hown hK.1 hP 0 rfl rfl 1 (by decide) (hts _ hf_X1_number_15) (fun _ h9 => h9) rfl dX1_number_7 ?_
      refine pw_icmp_ge (tgt := 34) hx hb (by omega) (by omega) dX1_number_10 (by decide) (fun c_2 => ?_) (fun c_2 => ?_)
      · exact absurd c_2 (by omega)
      · have _h := c_2
        refine lv_bipush (v := nI 31) hx hb dX1_number_13 (by decide) ?_
        refine lv_iload_n hx hb dX1_number_15 rfl (lv_at hl 1 rfl) ?_
        refine lv_imul hx hb dX1_number_16 ?_
        refine lv_aload_n hx hb dX1_number_17 rfl (lv_at hl 2 rfl) ?_
        refine va_get (D := D) (ci := 1) (v := .ref a) (C := RX1) (T := TX1) (N := 3) hx hb hts hi_X1_number_1 hown hK.1 hP 0 rfl rfl 0 (by decide) (hts _ hf_X1_number_9) (fun _ h9 => h9) rfl dX1_number_18 ?_
        refine lv_iload_n hx hb dX1_number_21 rfl (lv_at hl 0 rfl) ?_
        refine pw_iald hx hb hK.1 hP 1 0 rfl rfl (by decide) (by omega) dX1_number_22 ?_
        refine lv_iadd hx hb dX1_number_23 ?_
        refine lv_ldc (v := 1000003) hx hb hown (hts (.constant RX1 39 (1000003)) (by decide +kernel)) dX1_number_24 ?_
        refine lv_irem hx hb dX1_number_26 (by decide) ?_
        refine lv_istore_n (lv' := [(1, .int ((((nI 31) * x1) + (f i)) - (((nI 31) * x1) + (f i)) / 1000003 * 1000003)), (2, .int (nI i)), (0, .ref o)]) hx hb dX1_number_27 rfl hl (by decide) rfl (fun ls hl => ?_)
        refine lv_iinc (v := nI (i + 1)) (lv' := [(2, .int (nI (i + 1))), (1, .int ((((nI 31) * x1) + (f i)) - (((nI 31) * x1) + (f i)) / 1000003 * 1000003)), (0, .ref o)]) hx hb dX1_number_28 hl (k := 1) rfl (pw_inc _ 1) (by decide) rfl (fun ls hl => ?_)
        refine lv_goto (tgt := 5) hx hb dX1_number_31 (by decide) ?_
        exact ih (i + 1) (by omega) _ (by rw [ex1]; rfl) ls (lv_sub hl [0, 1, 2] rfl)
  exact loop n 0 (by omega) _ rfl ls hl
end
section
theorem c_hasThingAt_t (l : Launch) (D : va_G) (cI cP cR : ClassId) (o a n : Nat) (ch : Int32) (f : Nat → Int32) (j : Nat) (hn : n ≤ 60) (hj : j < n) : pw_Mp l yX1_hasThingAt wsX1_hasThingAt ({ frames := 0, cells := 0, slots := 0, locals := 0 } : Room) D cI cP cR [.ref o, .int (nI j)] ([(o, .inr (1, [.ref a, .int (nI n), .int (ch)])), (a, .inl (cI, 60, .inl (f)))]) (.int (nI 1)) := by
  have h := c_hasThingAt l D cI cP cR o a n ch f (nI j)
  rw [if_pos ⟨pw_ge0 (by omega), (pw_ltN (by omega) (by omega)).mpr (by omega)⟩] at h
  exact h
theorem c_hasThingAt_f (l : Launch) (D : va_G) (cI cP cR : ClassId) (o a n : Nat) (ch : Int32) (f : Nat → Int32) (q : Int32) (hq : ¬ (0 ≤ q ∧ q < nI n)) : pw_Mp l yX1_hasThingAt wsX1_hasThingAt ({ frames := 0, cells := 0, slots := 0, locals := 0 } : Room) D cI cP cR [.ref o, .int (q)] ([(o, .inr (1, [.ref a, .int (nI n), .int (ch)])), (a, .inl (cI, 60, .inl (f)))]) (.int (nI 0)) := by
  have h := c_hasThingAt l D cI cP cR o a n ch f q
  rw [if_neg hq] at h
  exact h
theorem c_canPutAt_t (l : Launch) (D : va_G) (cI cP cR : ClassId) (o a n : Nat) (ch : Int32) (f : Nat → Int32) (j : Nat) (hn : n ≤ 60) (hj : j ≤ n) : pw_Mp l yX1_canPutAt wsX1_canPutAt ({ frames := 0, cells := 0, slots := 0, locals := 0 } : Room) D cI cP cR [.ref o, .int (nI j)] ([(o, .inr (1, [.ref a, .int (nI n), .int (ch)])), (a, .inl (cI, 60, .inl (f)))]) (.int (nI 1)) := by
  have h := c_canPutAt l D cI cP cR o a n ch f (nI j)
  rw [if_pos ⟨pw_ge0 (by omega), (pw_leN (by omega) (by omega)).mpr (by omega)⟩] at h
  exact h
theorem c_canPutAt_f (l : Launch) (D : va_G) (cI cP cR : ClassId) (o a n : Nat) (ch : Int32) (f : Nat → Int32) (q : Int32) (hq : ¬ (0 ≤ q ∧ q ≤ nI n)) : pw_Mp l yX1_canPutAt wsX1_canPutAt ({ frames := 0, cells := 0, slots := 0, locals := 0 } : Room) D cI cP cR [.ref o, .int (q)] ([(o, .inr (1, [.ref a, .int (nI n), .int (ch)])), (a, .inl (cI, 60, .inl (f)))]) (.int (nI 0)) := by
  have h := c_canPutAt l D cI cP cR o a n ch f q
  rw [if_neg hq] at h
  exact h
theorem c_hasRoomFor_t (l : Launch) (D : va_G) (cI cP cR : ClassId) (o a n : Nat) (ch : Int32) (f : Nat → Int32) (k : Nat) (hk : n + k ≤ 60) : pw_Mp l yX1_hasRoomFor wsX1_hasRoomFor ({ frames := 0, cells := 0, slots := 0, locals := 0 } : Room) D cI cP cR [.ref o, .int (nI k)] ([(o, .inr (1, [.ref a, .int (nI n), .int (ch)])), (a, .inl (cI, 60, .inl (f)))]) (.int (nI 1)) := by
  have h := c_hasRoomFor l D cI cP cR o a n ch f k (by omega) (by omega)
  rw [if_pos hk] at h
  exact h
theorem c_hasRoomFor_f (l : Launch) (D : va_G) (cI cP cR : ClassId) (o a n : Nat) (ch : Int32) (f : Nat → Int32) (k : Nat) (hn : n ≤ 60) (hk0 : k ≤ 60) (hk : ¬ n + k ≤ 60) : pw_Mp l yX1_hasRoomFor wsX1_hasRoomFor ({ frames := 0, cells := 0, slots := 0, locals := 0 } : Room) D cI cP cR [.ref o, .int (nI k)] ([(o, .inr (1, [.ref a, .int (nI n), .int (ch)])), (a, .inl (cI, 60, .inl (f)))]) (.int (nI 0)) := by
  have h := c_hasRoomFor l D cI cP cR o a n ch f k hn hk0
  rw [if_neg hk] at h
  exact h
theorem hi_X0_standIn_0 : ∀ w ∈ u_ws RX0 TX0 6, w ∈ wsX0_standIn := by decide +kernel
theorem hi_X0_standIn_1 : ∀ w ∈ u_ws RX1 TX1 3, w ∈ wsX0_standIn := by decide +kernel
theorem hf_X0_standIn_9 : Cond.fieldLink RX0 9 "Pegrow$Peg" "hand" "I" ∈ wsX0_standIn := by decide +kernel
theorem hf_X0_standIn_15 : Cond.fieldLink RX0 15 "Pegrow$Peg" "row" "LPegrow$Row;" ∈ wsX0_standIn := by decide +kernel
theorem hf_X0_standIn_19 : Cond.fieldLink RX0 19 "Pegrow$Peg" "ahead" "I" ∈ wsX0_standIn := by decide +kernel
theorem hf_X0_standIn_27 : Cond.fieldLink RX0 27 "Pegrow$Peg" "seen" "I" ∈ wsX0_standIn := by decide +kernel
theorem hf_X0_standIn_30 : Cond.fieldLink RX0 30 "Pegrow$Peg" "missed" "Z" ∈ wsX0_standIn := by decide +kernel
set_option maxHeartbeats 4000000 in
set_option maxRecDepth 100000 in
theorem c_standIn (l : Launch) (D : va_G) (cI cP cR : ClassId) (b : Nat) (pa ps ph pt pm : Int32) (pv : Value) (o a n : Nat) (ch : Int32) (f : Nat → Int32) (q : Int32) : pw_Mm l yX0_standIn wsX0_standIn ({ frames := 0, cells := 0, slots := 0, locals := 0 } : Room) D cI cP cR [.ref b, .ref o, .int (q)] ([(b, .inr (0, [pv, .int (pa), .int (ps), .int (ph), .int (pt), .int (pm)])), (o, .inr (1, [.ref a, .int (nI n), .int (ch)])), (a, .inl (cI, 60, .inl (f)))]) (fun v w => v = none ∧ w = [(b, .inr (0, [.ref o, .int (q), .int (ch), .int (-1), .int (pt), .int (nI 0)])), (o, .inr (1, [.ref a, .int (nI n), .int (ch)])), (a, .inl (cI, 60, .inl (f)))]) := by
  refine pw_ofm (cc := cX0_standIn) (maxL := 3) (ret := none) (own := RX0) (by decide +kernel) rfl rfl (Nat.le_of_ble_eq_true rfl) ?_
  intro p_ e_ s m bel meth cd A hE hK hP hD hA hS ls hl
  obtain ⟨hx, hb, hr, hml, hown, hts, hlocks⟩ := hE
  have hNW := hK.2
  have hl : lv_has ls 3 [(0, .ref b), (1, .ref o), (2, .int (q))] := hl
  refine lv_aload_n hx hb dX0_standIn_0 rfl (lv_at hl 0 rfl) ?_
  refine lv_aload_n hx hb dX0_standIn_1 rfl (lv_at hl 1 rfl) ?_
  refine va_put (D := D) (ci := 0) (v := .ref o) (ty := .object "Pegrow$Row") (C := RX0) (T := TX0) (N := 6) hx hb hts hi_X0_standIn_0 tyX0 tyX0_ok nmX0 hown hK.1 hP hD hS 0 rfl rfl 0 (by decide) (hts _ hf_X0_standIn_15) (fun _ h9 => h9) rfl (by decide +kernel) rfl rfl (Nat.le_of_ble_eq_true rfl) dX0_standIn_2 (fun H locs hP hD hS => ?_)
  have hP : va_P D vwCl ([(b, .inr (0, [.ref o, .int (pa), .int (ps), .int (ph), .int (pt), .int (pm)])), (o, .inr (1, [.ref a, .int (nI n), .int (ch)])), (a, .inl (cI, 60, .inl (f)))]) H := hP
  have hD : va_D A ([(b, .inr (0, [.ref o, .int (pa), .int (ps), .int (ph), .int (pt), .int (pm)])), (o, .inr (1, [.ref a, .int (nI n), .int (ch)])), (a, .inl (cI, 60, .inl (f)))]) := hD
  refine lv_aload_n hx hb dX0_standIn_5 rfl (lv_at hl 0 rfl) ?_
  refine lv_iload_n hx hb dX0_standIn_6 rfl (lv_at hl 2 rfl) ?_
  refine va_put (D := D) (ci := 0) (v := .int (q)) (ty := .int) (C := RX0) (T := TX0) (N := 6) hx hb hts hi_X0_standIn_0 tyX0 tyX0_ok nmX0 hown hK.1 hP hD hS 0 rfl rfl 1 (by decide) (hts _ hf_X0_standIn_19) (fun _ h9 => h9) rfl (by decide +kernel) rfl rfl (Nat.le_of_ble_eq_true rfl) dX0_standIn_7 (fun H locs hP hD hS => ?_)
  have hP : va_P D vwCl ([(b, .inr (0, [.ref o, .int (q), .int (ps), .int (ph), .int (pt), .int (pm)])), (o, .inr (1, [.ref a, .int (nI n), .int (ch)])), (a, .inl (cI, 60, .inl (f)))]) H := hP
  have hD : va_D A ([(b, .inr (0, [.ref o, .int (q), .int (ps), .int (ph), .int (pt), .int (pm)])), (o, .inr (1, [.ref a, .int (nI n), .int (ch)])), (a, .inl (cI, 60, .inl (f)))]) := hD
  refine lv_aload_n hx hb dX0_standIn_10 rfl (lv_at hl 0 rfl) ?_
  refine lv_aload_n hx hb dX0_standIn_11 rfl (lv_at hl 1 rfl) ?_
  refine va_getN (D := D) (ci := 1) (v := .int (ch)) (C := RX1) (T := TX1) (N := 3) hx hb hts hi_X0_standIn_1 hown hK.1 hP 1 rfl rfl 2 (by decide) (va_Nw.use rfl hNW.2.2.2.2.2.2.2.2.1) (fun _ h9 => h9) rfl dX0_standIn_12 ?_
  refine va_put (D := D) (ci := 0) (v := .int (ch)) (ty := .int) (C := RX0) (T := TX0) (N := 6) hx hb hts hi_X0_standIn_0 tyX0 tyX0_ok nmX0 hown hK.1 hP hD hS 0 rfl rfl 2 (by decide) (hts _ hf_X0_standIn_27) (fun _ h9 => h9) rfl (by decide +kernel) rfl rfl (Nat.le_of_ble_eq_true rfl) dX0_standIn_15 (fun H locs hP hD hS => ?_)
  have hP : va_P D vwCl ([(b, .inr (0, [.ref o, .int (q), .int (ch), .int (ph), .int (pt), .int (pm)])), (o, .inr (1, [.ref a, .int (nI n), .int (ch)])), (a, .inl (cI, 60, .inl (f)))]) H := hP
  have hD : va_D A ([(b, .inr (0, [.ref o, .int (q), .int (ch), .int (ph), .int (pt), .int (pm)])), (o, .inr (1, [.ref a, .int (nI n), .int (ch)])), (a, .inl (cI, 60, .inl (f)))]) := hD
  refine lv_aload_n hx hb dX0_standIn_18 rfl (lv_at hl 0 rfl) ?_
  refine lv_iconst (v := -1) hx hb dX0_standIn_19 (by decide) ?_
  refine va_put (D := D) (ci := 0) (v := .int (-1)) (ty := .int) (C := RX0) (T := TX0) (N := 6) hx hb hts hi_X0_standIn_0 tyX0 tyX0_ok nmX0 hown hK.1 hP hD hS 0 rfl rfl 3 (by decide) (hts _ hf_X0_standIn_9) (fun _ h9 => h9) rfl (by decide +kernel) rfl rfl (Nat.le_of_ble_eq_true rfl) dX0_standIn_20 (fun H locs hP hD hS => ?_)
  have hP : va_P D vwCl ([(b, .inr (0, [.ref o, .int (q), .int (ch), .int (-1), .int (pt), .int (pm)])), (o, .inr (1, [.ref a, .int (nI n), .int (ch)])), (a, .inl (cI, 60, .inl (f)))]) H := hP
  have hD : va_D A ([(b, .inr (0, [.ref o, .int (q), .int (ch), .int (-1), .int (pt), .int (pm)])), (o, .inr (1, [.ref a, .int (nI n), .int (ch)])), (a, .inl (cI, 60, .inl (f)))]) := hD
  refine lv_aload_n hx hb dX0_standIn_23 rfl (lv_at hl 0 rfl) ?_
  refine lv_iconst (v := nI 0) hx hb dX0_standIn_24 (by decide) ?_
  refine va_put (D := D) (ci := 0) (v := .int (nI 0)) (ty := .boolean) (C := RX0) (T := TX0) (N := 6) hx hb hts hi_X0_standIn_0 tyX0 tyX0_ok nmX0 hown hK.1 hP hD hS 0 rfl rfl 5 (by decide) (hts _ hf_X0_standIn_30) (fun _ h9 => h9) rfl (by decide +kernel) rfl rfl (Nat.le_of_ble_eq_true rfl) dX0_standIn_25 (fun H locs hP hD hS => ?_)
  have hP : va_P D vwCl ([(b, .inr (0, [.ref o, .int (q), .int (ch), .int (-1), .int (pt), .int (nI 0)])), (o, .inr (1, [.ref a, .int (nI n), .int (ch)])), (a, .inl (cI, 60, .inl (f)))]) H := hP
  have hD : va_D A ([(b, .inr (0, [.ref o, .int (q), .int (ch), .int (-1), .int (pt), .int (nI 0)])), (o, .inr (1, [.ref a, .int (nI n), .int (ch)])), (a, .inl (cI, 60, .inl (f)))]) := hD
  exact pw_vret hx hb hr hlocks dX0_standIn_28 hS hP hD (⟨rfl, rfl⟩)
theorem hi_X0_leave_0 : ∀ w ∈ u_ws RX0 TX0 6, w ∈ wsX0_leave := by decide +kernel
theorem hf_X0_leave_15 : Cond.fieldLink RX0 15 "Pegrow$Peg" "row" "LPegrow$Row;" ∈ wsX0_leave := by decide +kernel
set_option maxHeartbeats 4000000 in
set_option maxRecDepth 100000 in
theorem c_leave (l : Launch) (D : va_G) (cI cP cR : ClassId) (b : Nat) (pa ps ph pt pm : Int32) (pr : Option Nat) (o : Nat) : pw_Mm l yX0_leave wsX0_leave ({ frames := 0, cells := 0, slots := 0, locals := 0 } : Room) D cI cP cR [.ref b, .ref o] ([(b, .inr (0, [va_rf (pr), .int (pa), .int (ps), .int (ph), .int (pt), .int (pm)]))]) (fun v w => v = none ∧ w = [(b, .inr (0, [va_rf (if pr = some o then none else pr), .int (pa), .int (ps), .int (ph), .int (pt), .int (pm)]))]) := by
  refine pw_ofm (cc := cX0_leave) (maxL := 2) (ret := none) (own := RX0) (by decide +kernel) rfl rfl (Nat.le_of_ble_eq_true rfl) ?_
  intro p_ e_ s m bel meth cd A hE hK hP hD hA hS ls hl
  obtain ⟨hx, hb, hr, hml, hown, hts, hlocks⟩ := hE
  have hNW := hK.2
  have hl : lv_has ls 2 [(0, .ref b), (1, .ref o)] := hl
  refine lv_aload_n hx hb dX0_leave_0 rfl (lv_at hl 0 rfl) ?_
  refine va_get (D := D) (ci := 0) (v := va_rf (pr)) (C := RX0) (T := TX0) (N := 6) hx hb hts hi_X0_leave_0 hown hK.1 hP 0 rfl rfl 0 (by decide) (hts _ hf_X0_leave_15) (fun _ h9 => h9) rfl dX0_leave_1 ?_
  refine lv_aload_n hx hb dX0_leave_4 rfl (lv_at hl 1 rfl) ?_
  refine lv_acmp_ne (rx := pr) (ry := (some o)) (tgt := 13) hx hb dX0_leave_5 (by decide) (fun c_1 => ?_) (fun c_1 => ?_)
  · have _h := c_1
    exact pw_vret hx hb hr hlocks dX0_leave_13 hS hP hD (⟨rfl, by rw [if_neg (by assumption)]⟩)
  · have _h := c_1
    refine lv_aload_n hx hb dX0_leave_8 rfl (lv_at hl 0 rfl) ?_
    refine lv_null hx hb dX0_leave_9 ?_
    refine va_put (D := D) (ci := 0) (v := .null) (ty := .object "Pegrow$Row") (C := RX0) (T := TX0) (N := 6) hx hb hts hi_X0_leave_0 tyX0 tyX0_ok nmX0 hown hK.1 hP hD hS 0 rfl rfl 0 (by decide) (hts _ hf_X0_leave_15) (fun _ h9 => h9) rfl (by decide +kernel) rfl rfl (Nat.le_of_ble_eq_true rfl) dX0_leave_10 (fun H locs hP hD hS => ?_)
    have hP : va_P D vwCl ([(b, .inr (0, [.null, .int (pa), .int (ps), .int (ph), .int (pt), .int (pm)]))]) H := hP
    have hD : va_D A ([(b, .inr (0, [.null, .int (pa), .int (ps), .int (ph), .int (pt), .int (pm)]))]) := hD
    exact pw_vret hx hb hr hlocks dX0_leave_13 hS hP hD (⟨rfl, by rw [if_pos (by assumption)]; rfl⟩)
theorem hi_X0_hold_0 : ∀ w ∈ u_ws RX0 TX0 6, w ∈ wsX0_hold := by decide +kernel
theorem hf_X0_hold_9 : Cond.fieldLink RX0 9 "Pegrow$Peg" "hand" "I" ∈ wsX0_hold := by decide +kernel
theorem hf_X0_hold_30 : Cond.fieldLink RX0 30 "Pegrow$Peg" "missed" "Z" ∈ wsX0_hold := by decide +kernel
theorem hf_X0_hold_34 : Cond.fieldLink RX0 34 "Pegrow$Peg" "held" "I" ∈ wsX0_hold := by decide +kernel
set_option maxHeartbeats 4000000 in
set_option maxRecDepth 100000 in
theorem c_hold (l : Launch) (D : va_G) (cI cP cR : ClassId) (b : Nat) (pa ps ph pt pm : Int32) (pr : Option Nat) (q x : Int32) : pw_Mm l yX0_hold wsX0_hold ({ frames := 0, cells := 0, slots := 0, locals := 0 } : Room) D cI cP cR [.ref b, .int (q), .int (x)] ([(b, .inr (0, [va_rf (pr), .int (pa), .int (ps), .int (ph), .int (pt), .int (pm)]))]) (fun v w => v = some (.int (x)) ∧ w = [(b, .inr (0, [va_rf (pr), .int (pa), .int (ps), .int (q), .int (x), .int (nI 0)]))]) := by
  refine pw_ofm (cc := cX0_hold) (maxL := 3) (ret := (some .int)) (own := RX0) (by decide +kernel) rfl rfl (Nat.le_of_ble_eq_true rfl) ?_
  intro p_ e_ s m bel meth cd A hE hK hP hD hA hS ls hl
  obtain ⟨hx, hb, hr, hml, hown, hts, hlocks⟩ := hE
  have hNW := hK.2
  have hl : lv_has ls 3 [(0, .ref b), (1, .int (q)), (2, .int (x))] := hl
  refine lv_aload_n hx hb dX0_hold_0 rfl (lv_at hl 0 rfl) ?_
  refine lv_iload_n hx hb dX0_hold_1 rfl (lv_at hl 1 rfl) ?_
  refine va_put (D := D) (ci := 0) (v := .int (q)) (ty := .int) (C := RX0) (T := TX0) (N := 6) hx hb hts hi_X0_hold_0 tyX0 tyX0_ok nmX0 hown hK.1 hP hD hS 0 rfl rfl 3 (by decide) (hts _ hf_X0_hold_9) (fun _ h9 => h9) rfl (by decide +kernel) rfl rfl (Nat.le_of_ble_eq_true rfl) dX0_hold_2 (fun H locs hP hD hS => ?_)
  have hP : va_P D vwCl ([(b, .inr (0, [va_rf (pr), .int (pa), .int (ps), .int (q), .int (pt), .int (pm)]))]) H := hP
  have hD : va_D A ([(b, .inr (0, [va_rf (pr), .int (pa), .int (ps), .int (q), .int (pt), .int (pm)]))]) := hD
  refine lv_aload_n hx hb dX0_hold_5 rfl (lv_at hl 0 rfl) ?_
  refine lv_iload_n hx hb dX0_hold_6 rfl (lv_at hl 2 rfl) ?_
  refine va_put (D := D) (ci := 0) (v := .int (x)) (ty := .int) (C := RX0) (T := TX0) (N := 6) hx hb hts hi_X0_hold_0 tyX0 tyX0_ok nmX0 hown hK.1 hP hD hS 0 rfl rfl 4 (by decide) (hts _ hf_X0_hold_34) (fun _ h9 => h9) rfl (by decide +kernel) rfl rfl (Nat.le_of_ble_eq_true rfl) dX0_hold_7 (fun H locs hP hD hS => ?_)
  have hP : va_P D vwCl ([(b, .inr (0, [va_rf (pr), .int (pa), .int (ps), .int (q), .int (x), .int (pm)]))]) H := hP
  have hD : va_D A ([(b, .inr (0, [va_rf (pr), .int (pa), .int (ps), .int (q), .int (x), .int (pm)]))]) := hD
  refine lv_aload_n hx hb dX0_hold_10 rfl (lv_at hl 0 rfl) ?_
  refine lv_iconst (v := nI 0) hx hb dX0_hold_11 (by decide) ?_
  refine va_put (D := D) (ci := 0) (v := .int (nI 0)) (ty := .boolean) (C := RX0) (T := TX0) (N := 6) hx hb hts hi_X0_hold_0 tyX0 tyX0_ok nmX0 hown hK.1 hP hD hS 0 rfl rfl 5 (by decide) (hts _ hf_X0_hold_30) (fun _ h9 => h9) rfl (by decide +kernel) rfl rfl (Nat.le_of_ble_eq_true rfl) dX0_hold_12 (fun H locs hP hD hS => ?_)
  have hP : va_P D vwCl ([(b, .inr (0, [va_rf (pr), .int (pa), .int (ps), .int (q), .int (x), .int (nI 0)]))]) H := hP
  have hD : va_D A ([(b, .inr (0, [va_rf (pr), .int (pa), .int (ps), .int (q), .int (x), .int (nI 0)]))]) := hD
  refine lv_iload_n hx hb dX0_hold_15 rfl (lv_at hl 2 rfl) ?_
  exact pw_iret hx hb hr (rfl) hlocks dX0_hold_16 hS hP hD (⟨rfl, rfl⟩)
theorem hi_X0_isOld_0 : ∀ w ∈ u_ws RX0 TX0 6, w ∈ wsX0_isOld := by decide +kernel
theorem hf_X0_isOld_15 : Cond.fieldLink RX0 15 "Pegrow$Peg" "row" "LPegrow$Row;" ∈ wsX0_isOld := by decide +kernel
set_option maxHeartbeats 4000000 in
set_option maxRecDepth 100000 in
theorem c_isOld_n (l : Launch) (D : va_G) (cI cP cR : ClassId) (b : Nat) (pa ps ph pt pm : Int32) : pw_Mp l yX0_isOld wsX0_isOld ({ frames := 0, cells := 0, slots := 0, locals := 0 } : Room) D cI cP cR [.ref b] ([(b, .inr (0, [.null, .int (pa), .int (ps), .int (ph), .int (pt), .int (pm)]))]) (.int (nI 0)) := by
  refine pw_ofp (cc := cX0_isOld) (maxL := 1) (ret := (some .boolean)) (own := RX0) (by decide +kernel) rfl rfl (Nat.le_of_ble_eq_true rfl) ?_
  intro p_ e_ s m bel meth cd hE hK hP hD ls hl
  obtain ⟨hx, hb, hr, hml, hown, hts, hlocks⟩ := hE
  have hNW := hK.2
  have hl : lv_has ls 1 [(0, .ref b)] := hl
  refine lv_aload_n hx hb dX0_isOld_0 rfl (lv_at hl 0 rfl) ?_
  refine va_get (D := D) (ci := 0) (v := .null) (C := RX0) (T := TX0) (N := 6) hx hb hts hi_X0_isOld_0 hown hK.1 hP 0 rfl rfl 0 (by decide) (hts _ hf_X0_isOld_15) (fun _ h9 => h9) rfl dX0_isOld_1 ?_
  refine lv_ifnullN (tgt := 25) hx hb dX0_isOld_4 (by decide) ?_
  refine lv_iconst (v := nI 0) hx hb dX0_isOld_25 (by decide) ?_
  exact pw_piret hx hb hr (rfl) hlocks dX0_isOld_26 (rfl)
theorem hi_X0_isOld_1 : ∀ w ∈ u_ws RX1 TX1 3, w ∈ wsX0_isOld := by decide +kernel
theorem hf_X0_isOld_27 : Cond.fieldLink RX0 27 "Pegrow$Peg" "seen" "I" ∈ wsX0_isOld := by decide +kernel
set_option maxHeartbeats 4000000 in
set_option maxRecDepth 100000 in
theorem c_isOld_r (l : Launch) (D : va_G) (cI cP cR : ClassId) (b : Nat) (pa ps ph pt pm : Int32) (o a n : Nat) (ch : Int32) (f : Nat → Int32) : pw_Mp l yX0_isOld wsX0_isOld ({ frames := 0, cells := 0, slots := 0, locals := 0 } : Room) D cI cP cR [.ref b] ([(b, .inr (0, [.ref o, .int (pa), .int (ps), .int (ph), .int (pt), .int (pm)])), (o, .inr (1, [.ref a, .int (nI n), .int (ch)])), (a, .inl (cI, 60, .inl (f)))]) (.int (if ps = ch then 0 else 1)) := by
  refine pw_ofp (cc := cX0_isOld) (maxL := 1) (ret := (some .boolean)) (own := RX0) (by decide +kernel) rfl rfl (Nat.le_of_ble_eq_true rfl) ?_
  intro p_ e_ s m bel meth cd hE hK hP hD ls hl
  obtain ⟨hx, hb, hr, hml, hown, hts, hlocks⟩ := hE
  have hNW := hK.2
  have hl : lv_has ls 1 [(0, .ref b)] := hl
  refine lv_aload_n hx hb dX0_isOld_0 rfl (lv_at hl 0 rfl) ?_
  refine va_get (D := D) (ci := 0) (v := .ref o) (C := RX0) (T := TX0) (N := 6) hx hb hts hi_X0_isOld_0 hown hK.1 hP 0 rfl rfl 0 (by decide) (hts _ hf_X0_isOld_15) (fun _ h9 => h9) rfl dX0_isOld_1 ?_
  refine lv_ifnull hx hb dX0_isOld_4 ?_
  refine lv_aload_n hx hb dX0_isOld_7 rfl (lv_at hl 0 rfl) ?_
  refine va_get (D := D) (ci := 0) (v := .int (ps)) (C := RX0) (T := TX0) (N := 6) hx hb hts hi_X0_isOld_0 hown hK.1 hP 0 rfl rfl 2 (by decide) (hts _ hf_X0_isOld_27) (fun _ h9 => h9) rfl dX0_isOld_8 ?_
  refine lv_aload_n hx hb dX0_isOld_11 rfl (lv_at hl 0 rfl) ?_
  refine va_get (D := D) (ci := 0) (v := .ref o) (C := RX0) (T := TX0) (N := 6) hx hb hts hi_X0_isOld_0 hown hK.1 hP 0 rfl rfl 0 (by decide) (hts _ hf_X0_isOld_15) (fun _ h9 => h9) rfl dX0_isOld_12 ?_
  refine va_getN (D := D) (ci := 1) (v := .int (ch)) (C := RX1) (T := TX1) (N := 3) hx hb hts hi_X0_isOld_1 hown hK.1 hP 1 rfl rfl 2 (by decide) (va_Nw.use rfl hNW.2.2.2.2.2.2.2.2.1) (fun _ h9 => h9) rfl dX0_isOld_15 ?_
  refine lv_icmp_eq (tgt := 25) hx hb dX0_isOld_18 (by decide) (fun c_1 => ?_) (fun c_1 => ?_)
  · have _h := c_1
    refine lv_iconst (v := nI 0) hx hb dX0_isOld_25 (by decide) ?_
    exact pw_piret hx hb hr (rfl) hlocks dX0_isOld_26 (by rw [if_pos (by assumption)]; rfl)
  · have _h := c_1
    refine lv_iconst (v := nI 1) hx hb dX0_isOld_21 (by decide) ?_
    refine lv_goto (tgt := 26) hx hb dX0_isOld_22 (by decide) ?_
    exact pw_piret hx hb hr (rfl) hlocks dX0_isOld_26 (by rw [if_neg (by assumption)]; rfl)
theorem hi_X2_rowOf_2 : ∀ w ∈ u_ws RX2 TX2 7, w ∈ wsX2_rowOf := by decide +kernel
theorem hf_X2_rowOf_11 : Cond.fieldLink RX2 11 "Pegrow" "rows" "[LPegrow$Row;" ∈ wsX2_rowOf := by decide +kernel
set_option maxHeartbeats 4000000 in
set_option maxRecDepth 100000 in
theorem c_rowOf_i (l : Launch) (D : va_G) (cI cP cR : ClassId) (h qr qp md : Nat) (r0 r1 r2 r3 : Int32) (ro : Nat → Nat) (i : Nat) (hi : i < 3) : pw_Mp l yX2_rowOf wsX2_rowOf ({ frames := 0, cells := 0, slots := 0, locals := 0 } : Room) D cI cP cR [.ref h, .int (nI i)] ([(h, .inr (2, [.ref qr, .ref qp, .int (nI md), .int (r0), .int (r1), .int (r2), .int (r3)])), (qr, .inl (cR, 3, .inr (.inr (.inr (.inr (fun i => some (ro i)))))))]) (.ref (ro i)) := by
  refine pw_ofp (cc := cX2_rowOf) (maxL := 2) (ret := (some (.object "Pegrow$Row"))) (own := RX2) (by decide +kernel) rfl rfl (Nat.le_of_ble_eq_true rfl) ?_
  intro p_ e_ s m bel meth cd hE hK hP hD ls hl
  obtain ⟨hx, hb, hr, hml, hown, hts, hlocks⟩ := hE
  have hNW := hK.2
  have hl : lv_has ls 2 [(0, .ref h), (1, .int (nI i))] := hl
  refine lv_iload_n hx hb dX2_rowOf_0 rfl (lv_at hl 1 rfl) ?_
  refine pw_if_lt (tgt := 22) hx hb (by omega) dX2_rowOf_1 (by decide) ?_
  refine lv_iload_n hx hb dX2_rowOf_4 rfl (lv_at hl 1 rfl) ?_
  refine lv_aload_n hx hb dX2_rowOf_5 rfl (lv_at hl 0 rfl) ?_
  refine va_get (D := D) (ci := 2) (v := .ref qr) (C := RX2) (T := TX2) (N := 7) hx hb hts hi_X2_rowOf_2 hown hK.1 hP 0 rfl rfl 0 (by decide) (hts _ hf_X2_rowOf_11) (fun _ h9 => h9) rfl dX2_rowOf_6 ?_
  refine va_alen (v := nI 3) hx hb hK.1 hP 1 2 rfl rfl rfl dX2_rowOf_9 ?_
  refine pw_icmp_ge (tgt := 22) hx hb (by omega) (by omega) dX2_rowOf_10 (by decide) (fun c_1 => ?_) (fun c_1 => ?_)
  · exact absurd c_1 (by omega)
  · have _h := c_1
    refine lv_aload_n hx hb dX2_rowOf_13 rfl (lv_at hl 0 rfl) ?_
    refine va_get (D := D) (ci := 2) (v := .ref qr) (C := RX2) (T := TX2) (N := 7) hx hb hts hi_X2_rowOf_2 hown hK.1 hP 0 rfl rfl 0 (by decide) (hts _ hf_X2_rowOf_11) (fun _ h9 => h9) rfl dX2_rowOf_14 ?_
    refine lv_iload_n hx hb dX2_rowOf_17 rfl (lv_at hl 1 rfl) ?_
    refine pw_aldq hx hb hK.1 hP 1 2 rfl rfl (by decide) (by omega) dX2_rowOf_18 ?_
    refine lv_goto (tgt := 23) hx hb dX2_rowOf_19 (by decide) ?_
    exact pw_paret hx hb hr hlocks dX2_rowOf_23 (Or.inr ⟨_, rfl⟩) rfl
set_option maxHeartbeats 4000000 in
set_option maxRecDepth 100000 in
theorem c_rowOf_n (l : Launch) (D : va_G) (cI cP cR : ClassId) (h qr qp md : Nat) (r0 r1 r2 r3 : Int32) (ro : Nat → Nat) (q : Int32) (hq : ¬ (0 ≤ q ∧ q < nI 3)) : pw_Mp l yX2_rowOf wsX2_rowOf ({ frames := 0, cells := 0, slots := 0, locals := 0 } : Room) D cI cP cR [.ref h, .int (q)] ([(h, .inr (2, [.ref qr, .ref qp, .int (nI md), .int (r0), .int (r1), .int (r2), .int (r3)])), (qr, .inl (cR, 3, .inr (.inr (.inr (.inr (fun i => some (ro i)))))))]) (.null) := by
  refine pw_ofp (cc := cX2_rowOf) (maxL := 2) (ret := (some (.object "Pegrow$Row"))) (own := RX2) (by decide +kernel) rfl rfl (Nat.le_of_ble_eq_true rfl) ?_
  intro p_ e_ s m bel meth cd hE hK hP hD ls hl
  obtain ⟨hx, hb, hr, hml, hown, hts, hlocks⟩ := hE
  have hNW := hK.2
  have hl : lv_has ls 2 [(0, .ref h), (1, .int (q))] := hl
  refine lv_iload_n hx hb dX2_rowOf_0 rfl (lv_at hl 1 rfl) ?_
  refine lv_if_lt (tgt := 22) hx hb dX2_rowOf_1 (by decide) (fun c_1 => ?_) (fun c_1 => ?_)
  · have _h := c_1
    refine lv_null hx hb dX2_rowOf_22 ?_
    exact pw_paret hx hb hr hlocks dX2_rowOf_23 (Or.inl rfl) rfl
  · have _h := c_1
    refine lv_iload_n hx hb dX2_rowOf_4 rfl (lv_at hl 1 rfl) ?_
    refine lv_aload_n hx hb dX2_rowOf_5 rfl (lv_at hl 0 rfl) ?_
    refine va_get (D := D) (ci := 2) (v := .ref qr) (C := RX2) (T := TX2) (N := 7) hx hb hts hi_X2_rowOf_2 hown hK.1 hP 0 rfl rfl 0 (by decide) (hts _ hf_X2_rowOf_11) (fun _ h9 => h9) rfl dX2_rowOf_6 ?_
    refine va_alen (v := nI 3) hx hb hK.1 hP 1 2 rfl rfl rfl dX2_rowOf_9 ?_
    refine lv_icmp_ge (tgt := 22) hx hb dX2_rowOf_10 (by decide) (fun c_2 => ?_) (fun c_2 => ?_)
    · have _h := c_2
      refine lv_null hx hb dX2_rowOf_22 ?_
      exact pw_paret hx hb hr hlocks dX2_rowOf_23 (Or.inl rfl) rfl
    · exact absurd ⟨Int32.not_lt.mp c_1, Int32.not_le.mp c_2⟩ hq
theorem hi_X2_pegOf_2 : ∀ w ∈ u_ws RX2 TX2 7, w ∈ wsX2_pegOf := by decide +kernel
theorem hf_X2_pegOf_17 : Cond.fieldLink RX2 17 "Pegrow" "pegs" "[LPegrow$Peg;" ∈ wsX2_pegOf := by decide +kernel
set_option maxHeartbeats 4000000 in
set_option maxRecDepth 100000 in
theorem c_pegOf_i (l : Launch) (D : va_G) (cI cP cR : ClassId) (h qr qp md : Nat) (r0 r1 r2 r3 : Int32) (po : Nat → Nat) (i : Nat) (hi : i < 4) : pw_Mp l yX2_pegOf wsX2_pegOf ({ frames := 0, cells := 0, slots := 0, locals := 0 } : Room) D cI cP cR [.ref h, .int (nI i)] ([(h, .inr (2, [.ref qr, .ref qp, .int (nI md), .int (r0), .int (r1), .int (r2), .int (r3)])), (qp, .inl (cP, 4, .inr (.inr (.inr (.inr (fun i => some (po i)))))))]) (.ref (po i)) := by
  refine pw_ofp (cc := cX2_pegOf) (maxL := 2) (ret := (some (.object "Pegrow$Peg"))) (own := RX2) (by decide +kernel) rfl rfl (Nat.le_of_ble_eq_true rfl) ?_
  intro p_ e_ s m bel meth cd hE hK hP hD ls hl
  obtain ⟨hx, hb, hr, hml, hown, hts, hlocks⟩ := hE
  have hNW := hK.2
  have hl : lv_has ls 2 [(0, .ref h), (1, .int (nI i))] := hl
  refine lv_iload_n hx hb dX2_pegOf_0 rfl (lv_at hl 1 rfl) ?_
  refine pw_if_lt (tgt := 22) hx hb (by omega) dX2_pegOf_1 (by decide) ?_
  refine lv_iload_n hx hb dX2_pegOf_4 rfl (lv_at hl 1 rfl) ?_
  refine lv_aload_n hx hb dX2_pegOf_5 rfl (lv_at hl 0 rfl) ?_
  refine va_get (D := D) (ci := 2) (v := .ref qp) (C := RX2) (T := TX2) (N := 7) hx hb hts hi_X2_pegOf_2 hown hK.1 hP 0 rfl rfl 1 (by decide) (hts _ hf_X2_pegOf_17) (fun _ h9 => h9) rfl dX2_pegOf_6 ?_
  refine va_alen (v := nI 4) hx hb hK.1 hP 1 1 rfl rfl rfl dX2_pegOf_9 ?_
  refine pw_icmp_ge (tgt := 22) hx hb (by omega) (by omega) dX2_pegOf_10 (by decide) (fun c_1 => ?_) (fun c_1 => ?_)
  · exact absurd c_1 (by omega)
  · have _h := c_1
    refine lv_aload_n hx hb dX2_pegOf_13 rfl (lv_at hl 0 rfl) ?_
    refine va_get (D := D) (ci := 2) (v := .ref qp) (C := RX2) (T := TX2) (N := 7) hx hb hts hi_X2_pegOf_2 hown hK.1 hP 0 rfl rfl 1 (by decide) (hts _ hf_X2_pegOf_17) (fun _ h9 => h9) rfl dX2_pegOf_14 ?_
    refine lv_iload_n hx hb dX2_pegOf_17 rfl (lv_at hl 1 rfl) ?_
    refine pw_aldq hx hb hK.1 hP 1 1 rfl rfl (by decide) (by omega) dX2_pegOf_18 ?_
    refine lv_goto (tgt := 23) hx hb dX2_pegOf_19 (by decide) ?_
    exact pw_paret hx hb hr hlocks dX2_pegOf_23 (Or.inr ⟨_, rfl⟩) rfl
set_option maxHeartbeats 4000000 in
set_option maxRecDepth 100000 in
theorem c_pegOf_n (l : Launch) (D : va_G) (cI cP cR : ClassId) (h qr qp md : Nat) (r0 r1 r2 r3 : Int32) (po : Nat → Nat) (q : Int32) (hq : ¬ (0 ≤ q ∧ q < nI 4)) : pw_Mp l yX2_pegOf wsX2_pegOf ({ frames := 0, cells := 0, slots := 0, locals := 0 } : Room) D cI cP cR [.ref h, .int (q)] ([(h, .inr (2, [.ref qr, .ref qp, .int (nI md), .int (r0), .int (r1), .int (r2), .int (r3)])), (qp, .inl (cP, 4, .inr (.inr (.inr (.inr (fun i => some (po i)))))))]) (.null) := by
  refine pw_ofp (cc := cX2_pegOf) (maxL := 2) (ret := (some (.object "Pegrow$Peg"))) (own := RX2) (by decide +kernel) rfl rfl (Nat.le_of_ble_eq_true rfl) ?_
  intro p_ e_ s m bel meth cd hE hK hP hD ls hl
  obtain ⟨hx, hb, hr, hml, hown, hts, hlocks⟩ := hE
  have hNW := hK.2
  have hl : lv_has ls 2 [(0, .ref h), (1, .int (q))] := hl
  refine lv_iload_n hx hb dX2_pegOf_0 rfl (lv_at hl 1 rfl) ?_
  refine lv_if_lt (tgt := 22) hx hb dX2_pegOf_1 (by decide) (fun c_1 => ?_) (fun c_1 => ?_)
  · have _h := c_1
    refine lv_null hx hb dX2_pegOf_22 ?_
    exact pw_paret hx hb hr hlocks dX2_pegOf_23 (Or.inl rfl) rfl
  · have _h := c_1
    refine lv_iload_n hx hb dX2_pegOf_4 rfl (lv_at hl 1 rfl) ?_
    refine lv_aload_n hx hb dX2_pegOf_5 rfl (lv_at hl 0 rfl) ?_
    refine va_get (D := D) (ci := 2) (v := .ref qp) (C := RX2) (T := TX2) (N := 7) hx hb hts hi_X2_pegOf_2 hown hK.1 hP 0 rfl rfl 1 (by decide) (hts _ hf_X2_pegOf_17) (fun _ h9 => h9) rfl dX2_pegOf_6 ?_
    refine va_alen (v := nI 4) hx hb hK.1 hP 1 1 rfl rfl rfl dX2_pegOf_9 ?_
    refine lv_icmp_ge (tgt := 22) hx hb dX2_pegOf_10 (by decide) (fun c_2 => ?_) (fun c_2 => ?_)
    · have _h := c_2
      refine lv_null hx hb dX2_pegOf_22 ?_
      exact pw_paret hx hb hr hlocks dX2_pegOf_23 (Or.inl rfl) rfl
    · exact absurd ⟨Int32.not_lt.mp c_1, Int32.not_le.mp c_2⟩ hq
set_option maxHeartbeats 4000000 in
set_option maxRecDepth 100000 in
theorem c_isName (l : Launch) (D : va_G) (cI cP cR : ClassId) (q : Int32) : pw_Mp l yX2_isName wsX2_isName ({ frames := 0, cells := 0, slots := 0, locals := 0 } : Room) D cI cP cR [.int (q)] ([]) (.int (if 0 ≤ q ∧ q < nI 10 then 1 else 0)) := by
  refine pw_ofp (cc := cX2_isName) (maxL := 1) (ret := (some .boolean)) (own := RX2) (by decide +kernel) rfl rfl (Nat.le_of_ble_eq_true rfl) ?_
  intro p_ e_ s m bel meth cd hE hK hP hD ls hl
  obtain ⟨hx, hb, hr, hml, hown, hts, hlocks⟩ := hE
  have hNW := hK.2
  have hl : lv_has ls 1 [(0, .int (q))] := hl
  refine lv_iload_n hx hb dX2_isName_0 rfl (lv_at hl 0 rfl) ?_
  refine lv_if_lt (tgt := 14) hx hb dX2_isName_1 (by decide) (fun c_1 => ?_) (fun c_1 => ?_)
  · have _h := c_1
    refine lv_iconst (v := nI 0) hx hb dX2_isName_14 (by decide) ?_
    exact pw_piret hx hb hr (rfl) hlocks dX2_isName_15 (by rw [if_neg (fun h => by first | exact absurd h.1 (Int32.not_le.mpr (by assumption)) | exact absurd h.2 (Int32.not_lt.mpr (by assumption)))]; rfl)
  · have _h := c_1
    refine lv_iload_n hx hb dX2_isName_4 rfl (lv_at hl 0 rfl) ?_
    refine lv_bipush (v := nI 10) hx hb dX2_isName_5 (by decide) ?_
    refine lv_icmp_ge (tgt := 14) hx hb dX2_isName_7 (by decide) (fun c_2 => ?_) (fun c_2 => ?_)
    · have _h := c_2
      refine lv_iconst (v := nI 0) hx hb dX2_isName_14 (by decide) ?_
      exact pw_piret hx hb hr (rfl) hlocks dX2_isName_15 (by rw [if_neg (fun h => by first | exact absurd h.1 (Int32.not_le.mpr (by assumption)) | exact absurd h.2 (Int32.not_lt.mpr (by assumption)))]; rfl)
    · have _h := c_2
      refine lv_iconst (v := nI 1) hx hb dX2_isName_10 (by decide) ?_
      refine lv_goto (tgt := 15) hx hb dX2_isName_11 (by decide) ?_
      exact pw_piret hx hb hr (rfl) hlocks dX2_isName_15 (by rw [if_pos ⟨Int32.not_lt.mp (by assumption), Int32.not_le.mp (by assumption)⟩]; rfl)
theorem c_isName_t (l : Launch) (D : va_G) (cI cP cR : ClassId) (j : Nat) (hj : j < 10) : pw_Mp l yX2_isName wsX2_isName ({ frames := 0, cells := 0, slots := 0, locals := 0 } : Room) D cI cP cR [.int (nI j)] ([]) (.int (nI 1)) := by
  have h := c_isName l D cI cP cR (nI j)
  rw [if_pos ⟨pw_ge0 (by omega), (pw_ltN (by omega) (by omega)).mpr (by omega)⟩] at h
  exact h
theorem c_isName_f (l : Launch) (D : va_G) (cI cP cR : ClassId) (q : Int32) (hq : ¬ (0 ≤ q ∧ q < nI 10)) : pw_Mp l yX2_isName wsX2_isName ({ frames := 0, cells := 0, slots := 0, locals := 0 } : Room) D cI cP cR [.int (q)] ([]) (.int (nI 0)) := by
  have h := c_isName l D cI cP cR q
  rw [if_neg hq] at h
  exact h
set_option maxHeartbeats 4000000 in
set_option maxRecDepth 100000 in
theorem c_isEndWay (l : Launch) (D : va_G) (cI cP cR : ClassId) (q hi la : Int32) : pw_Mp l yX2_isEndWay wsX2_isEndWay ({ frames := 0, cells := 0, slots := 0, locals := 0 } : Room) D cI cP cR [.int (q), .int (hi), .int (la)] ([]) (.int (if 0 ≤ q ∧ q ≤ (if la = 0 then hi else nI 1) then 1 else 0)) := by
  refine pw_ofp (cc := cX2_isEndWay) (maxL := 3) (ret := (some .boolean)) (own := RX2) (by decide +kernel) rfl rfl (Nat.le_of_ble_eq_true rfl) ?_
  intro p_ e_ s m bel meth cd hE hK hP hD ls hl
  obtain ⟨hx, hb, hr, hml, hown, hts, hlocks⟩ := hE
  have hNW := hK.2
  have hl : lv_has ls 3 [(0, .int (q)), (1, .int (hi)), (2, .int (la))] := hl
  refine lv_iload_n hx hb dX2_isEndWay_0 rfl (lv_at hl 0 rfl) ?_
  refine lv_if_lt (tgt := 21) hx hb dX2_isEndWay_1 (by decide) (fun c_1 => ?_) (fun c_1 => ?_)
  · have _h := c_1
    refine lv_iconst (v := nI 0) hx hb dX2_isEndWay_21 (by decide) ?_
    exact pw_piret hx hb hr (rfl) hlocks dX2_isEndWay_22 (by rw [if_neg (fun h => absurd h.1 (Int32.not_le.mpr (by assumption)))]; rfl)
  · have _h := c_1
    refine lv_iload_n hx hb dX2_isEndWay_4 rfl (lv_at hl 0 rfl) ?_
    refine lv_iload_n hx hb dX2_isEndWay_5 rfl (lv_at hl 2 rfl) ?_
    refine lv_if_eq (tgt := 13) hx hb dX2_isEndWay_6 (by decide) (fun c_2 => ?_) (fun c_2 => ?_)
    · have _h := c_2
      refine lv_iload_n hx hb dX2_isEndWay_13 rfl (lv_at hl 1 rfl) ?_
      refine lv_icmp_gt (tgt := 21) hx hb dX2_isEndWay_14 (by decide) (fun c_3 => ?_) (fun c_3 => ?_)
      · have _h := c_3
        refine lv_iconst (v := nI 0) hx hb dX2_isEndWay_21 (by decide) ?_
        exact pw_piret hx hb hr (rfl) hlocks dX2_isEndWay_22 (by rw [if_neg (fun h => by have h2 := h.2; rw [if_pos (show la = 0 from by assumption)] at h2; exact absurd h2 (Int32.not_le.mpr (by assumption)))]; rfl)
      · have _h := c_3
        refine lv_iconst (v := nI 1) hx hb dX2_isEndWay_17 (by decide) ?_
        refine lv_goto (tgt := 22) hx hb dX2_isEndWay_18 (by decide) ?_
        exact pw_piret hx hb hr (rfl) hlocks dX2_isEndWay_22 (by rw [if_pos ⟨Int32.not_lt.mp (by assumption), by rw [if_pos (show la = 0 from by assumption)]; exact Int32.not_lt.mp (by assumption)⟩]; rfl)
    · have _h := c_2
      refine lv_iconst (v := nI 1) hx hb dX2_isEndWay_9 (by decide) ?_
      refine lv_goto (tgt := 14) hx hb dX2_isEndWay_10 (by decide) ?_
      refine lv_icmp_gt (tgt := 21) hx hb dX2_isEndWay_14 (by decide) (fun c_4 => ?_) (fun c_4 => ?_)
      · have _h := c_4
        refine lv_iconst (v := nI 0) hx hb dX2_isEndWay_21 (by decide) ?_
        exact pw_piret hx hb hr (rfl) hlocks dX2_isEndWay_22 (by rw [if_neg (fun h => by have h2 := h.2; rw [if_neg (show ¬ la = 0 from by assumption)] at h2; exact absurd h2 (Int32.not_le.mpr (by assumption)))]; rfl)
      · have _h := c_4
        refine lv_iconst (v := nI 1) hx hb dX2_isEndWay_17 (by decide) ?_
        refine lv_goto (tgt := 22) hx hb dX2_isEndWay_18 (by decide) ?_
        exact pw_piret hx hb hr (rfl) hlocks dX2_isEndWay_22 (by rw [if_pos ⟨Int32.not_lt.mp (by assumption), by rw [if_neg (show ¬ la = 0 from by assumption)]; exact Int32.not_lt.mp (by assumption)⟩]; rfl)
theorem c_isEndWay_t (l : Launch) (D : va_G) (cI cP cR : ClassId) (q hi la : Int32) (hq : 0 ≤ q ∧ q ≤ (if la = 0 then hi else nI 1)) : pw_Mp l yX2_isEndWay wsX2_isEndWay ({ frames := 0, cells := 0, slots := 0, locals := 0 } : Room) D cI cP cR [.int (q), .int (hi), .int (la)] ([]) (.int (nI 1)) := by
  have h := c_isEndWay l D cI cP cR q hi la
  rw [if_pos hq] at h
  exact h
theorem c_isEndWay_f (l : Launch) (D : va_G) (cI cP cR : ClassId) (q hi la : Int32) (hq : ¬ (0 ≤ q ∧ q ≤ (if la = 0 then hi else nI 1))) : pw_Mp l yX2_isEndWay wsX2_isEndWay ({ frames := 0, cells := 0, slots := 0, locals := 0 } : Room) D cI cP cR [.int (q), .int (hi), .int (la)] ([]) (.int (nI 0)) := by
  have h := c_isEndWay l D cI cP cR q hi la
  rw [if_neg hq] at h
  exact h
set_option maxHeartbeats 4000000 in
set_option maxRecDepth 100000 in
theorem c_oneIf (l : Launch) (D : va_G) (cI cP cR : ClassId) (q : Int32) : pw_Mp l yX2_oneIf wsX2_oneIf ({ frames := 0, cells := 0, slots := 0, locals := 0 } : Room) D cI cP cR [.int (q)] ([]) (.int (if q = 0 then 0 else 1)) := by
  refine pw_ofp (cc := cX2_oneIf) (maxL := 1) (ret := (some .int)) (own := RX2) (by decide +kernel) rfl rfl (Nat.le_of_ble_eq_true rfl) ?_
  intro p_ e_ s m bel meth cd hE hK hP hD ls hl
  obtain ⟨hx, hb, hr, hml, hown, hts, hlocks⟩ := hE
  have hNW := hK.2
  have hl : lv_has ls 1 [(0, .int (q))] := hl
  refine lv_iload_n hx hb dX2_oneIf_0 rfl (lv_at hl 0 rfl) ?_
  refine lv_if_eq (tgt := 8) hx hb dX2_oneIf_1 (by decide) (fun c_1 => ?_) (fun c_1 => ?_)
  · have _h := c_1
    refine lv_iconst (v := nI 0) hx hb dX2_oneIf_8 (by decide) ?_
    exact pw_piret hx hb hr (rfl) hlocks dX2_oneIf_9 (by rw [if_pos (by assumption)]; rfl)
  · have _h := c_1
    refine lv_iconst (v := nI 1) hx hb dX2_oneIf_4 (by decide) ?_
    refine lv_goto (tgt := 9) hx hb dX2_oneIf_5 (by decide) ?_
    exact pw_piret hx hb hr (rfl) hlocks dX2_oneIf_9 (by rw [if_neg (by assumption)]; rfl)
theorem hi_X2_newThing_2 : ∀ w ∈ u_ws RX2 TX2 7, w ∈ wsX2_newThing := by decide +kernel
theorem hf_X2_newThing_146 : Cond.fieldLink RX2 146 "Pegrow" "made" "I" ∈ wsX2_newThing := by decide +kernel
set_option maxHeartbeats 4000000 in
set_option maxRecDepth 100000 in
theorem c_newThing (l : Launch) (D : va_G) (cI cP cR : ClassId) (h qr qp md : Nat) (r0 r1 r2 r3 : Int32) (nm : Nat) : pw_Mm l yX2_newThing wsX2_newThing ({ frames := 0, cells := 0, slots := 0, locals := 0 } : Room) D cI cP cR [.ref h, .int (nI nm)] ([(h, .inr (2, [.ref qr, .ref qp, .int (nI md), .int (r0), .int (r1), .int (r2), .int (r3)]))]) (fun v w => v = some (.int (nI ((md * 10) + nm))) ∧ w = [(h, .inr (2, [.ref qr, .ref qp, .int (nI (md + 1)), .int (r0), .int (r1), .int (r2), .int (r3)]))]) := by
  refine pw_ofm (cc := cX2_newThing) (maxL := 3) (ret := (some .int)) (own := RX2) (by decide +kernel) rfl rfl (Nat.le_of_ble_eq_true rfl) ?_
  intro p_ e_ s m bel meth cd A hE hK hP hD hA hS ls hl
  obtain ⟨hx, hb, hr, hml, hown, hts, hlocks⟩ := hE
  have hNW := hK.2
  have hl : lv_has ls 3 [(0, .ref h), (1, .int (nI nm))] := hl
  refine lv_aload_n hx hb dX2_newThing_0 rfl (lv_at hl 0 rfl) ?_
  refine va_get (D := D) (ci := 2) (v := .int (nI md)) (C := RX2) (T := TX2) (N := 7) hx hb hts hi_X2_newThing_2 hown hK.1 hP 0 rfl rfl 2 (by decide) (hts _ hf_X2_newThing_146) (fun _ h9 => h9) rfl dX2_newThing_1 ?_
  refine lv_bipush (v := nI 10) hx hb dX2_newThing_4 (by decide) ?_
  refine pw_imul hx hb dX2_newThing_6 ?_
  refine lv_iload_n hx hb dX2_newThing_7 rfl (lv_at hl 1 rfl) ?_
  refine pw_iadd hx hb dX2_newThing_8 ?_
  refine lv_istore_n (lv' := [(2, .int (nI ((md * 10) + nm))), (0, .ref h), (1, .int (nI nm))]) hx hb dX2_newThing_9 rfl hl (by decide) rfl (fun ls hl => ?_)
  refine lv_aload_n hx hb dX2_newThing_10 rfl (lv_at hl 1 rfl) ?_
  refine lv_dup hx hb dX2_newThing_11 rfl ?_
  refine va_get (D := D) (ci := 2) (v := .int (nI md)) (C := RX2) (T := TX2) (N := 7) hx hb hts hi_X2_newThing_2 hown hK.1 hP 0 rfl rfl 2 (by decide) (hts _ hf_X2_newThing_146) (fun _ h9 => h9) rfl dX2_newThing_12 ?_
  refine lv_iconst (v := nI 1) hx hb dX2_newThing_15 (by decide) ?_
  refine pw_iadd hx hb dX2_newThing_16 ?_
  refine va_put (D := D) (ci := 2) (v := .int (nI (md + 1))) (ty := .int) (C := RX2) (T := TX2) (N := 7) hx hb hts hi_X2_newThing_2 tyX2 tyX2_ok nmX2 hown hK.1 hP hD hS 0 rfl rfl 2 (by decide) (hts _ hf_X2_newThing_146) (fun _ h9 => h9) rfl (by decide +kernel) rfl rfl (Nat.le_of_ble_eq_true rfl) dX2_newThing_17 (fun H locs hP hD hS => ?_)
  have hP : va_P D vwCl ([(h, .inr (2, [.ref qr, .ref qp, .int (nI (md + 1)), .int (r0), .int (r1), .int (r2), .int (r3)]))]) H := hP
  have hD : va_D A ([(h, .inr (2, [.ref qr, .ref qp, .int (nI (md + 1)), .int (r0), .int (r1), .int (r2), .int (r3)]))]) := hD
  refine lv_iload_n hx hb dX2_newThing_20 rfl (lv_at hl 0 rfl) ?_
  exact pw_iret hx hb hr (rfl) hlocks dX2_newThing_21 hS hP hD (⟨rfl, rfl⟩)
theorem hi_X2_refused_2 : ∀ w ∈ u_ws RX2 TX2 7, w ∈ wsX2_refused := by decide +kernel
theorem hf_X2_refused_149 : Cond.fieldLink RX2 149 "Pegrow" "emptyRefusals" "I" ∈ wsX2_refused := by decide +kernel
set_option maxHeartbeats 4000000 in
set_option maxRecDepth 100000 in
theorem c_refused_e (l : Launch) (D : va_G) (cI cP cR : ClassId) (h qr qp md : Nat) (r0 r1 r2 r3 : Int32) : pw_Mm l yX2_refused wsX2_refused ({ frames := 0, cells := 0, slots := 0, locals := 0 } : Room) D cI cP cR [.ref h, .int (-6)] ([(h, .inr (2, [.ref qr, .ref qp, .int (nI md), .int (r0), .int (r1), .int (r2), .int (r3)]))]) (fun v w => v = some (.int (-6)) ∧ w = [(h, .inr (2, [.ref qr, .ref qp, .int (nI md), .int (r0 + nI 1), .int (r1), .int (r2), .int (r3)]))]) := by
  refine pw_ofm (cc := cX2_refused) (maxL := 2) (ret := (some .int)) (own := RX2) (by decide +kernel) rfl rfl (Nat.le_of_ble_eq_true rfl) ?_
  intro p_ e_ s m bel meth cd A hE hK hP hD hA hS ls hl
  obtain ⟨hx, hb, hr, hml, hown, hts, hlocks⟩ := hE
  have hNW := hK.2
  have hl : lv_has ls 2 [(0, .ref h), (1, .int (-6))] := hl
  refine lv_iload_n hx hb dX2_refused_0 rfl (lv_at hl 1 rfl) ?_
  refine lv_tableIn (off := 27) (tgt := 28) hx hb dX2_refused_1 (by decide) (by decide) (by decide) (by decide) ?_
  refine lv_aload_n hx hb dX2_refused_28 rfl (lv_at hl 0 rfl) ?_
  refine lv_dup hx hb dX2_refused_29 rfl ?_
  refine va_get (D := D) (ci := 2) (v := .int (r0)) (C := RX2) (T := TX2) (N := 7) hx hb hts hi_X2_refused_2 hown hK.1 hP 0 rfl rfl 3 (by decide) (hts _ hf_X2_refused_149) (fun _ h9 => h9) rfl dX2_refused_30 ?_
  refine lv_iconst (v := nI 1) hx hb dX2_refused_33 (by decide) ?_
  refine lv_iadd hx hb dX2_refused_34 ?_
  refine va_put (D := D) (ci := 2) (v := .int (r0 + (nI 1))) (ty := .int) (C := RX2) (T := TX2) (N := 7) hx hb hts hi_X2_refused_2 tyX2 tyX2_ok nmX2 hown hK.1 hP hD hS 0 rfl rfl 3 (by decide) (hts _ hf_X2_refused_149) (fun _ h9 => h9) rfl (by decide +kernel) rfl rfl (Nat.le_of_ble_eq_true rfl) dX2_refused_35 (fun H locs hP hD hS => ?_)
  have hP : va_P D vwCl ([(h, .inr (2, [.ref qr, .ref qp, .int (nI md), .int (r0 + (nI 1)), .int (r1), .int (r2), .int (r3)]))]) H := hP
  have hD : va_D A ([(h, .inr (2, [.ref qr, .ref qp, .int (nI md), .int (r0 + (nI 1)), .int (r1), .int (r2), .int (r3)]))]) := hD
  refine lv_goto (tgt := 77) hx hb dX2_refused_38 (by decide) ?_
  refine lv_iload_n hx hb dX2_refused_77 rfl (lv_at hl 1 rfl) ?_
  exact pw_iret hx hb hr (rfl) hlocks dX2_refused_78 hS hP hD (⟨rfl, rfl⟩)
theorem hf_X2_refused_152 : Cond.fieldLink RX2 152 "Pegrow" "placeRefusals" "I" ∈ wsX2_refused := by decide +kernel
set_option maxHeartbeats 4000000 in
set_option maxRecDepth 100000 in
theorem c_refused_p (l : Launch) (D : va_G) (cI cP cR : ClassId) (h qr qp md : Nat) (r0 r1 r2 r3 : Int32) : pw_Mm l yX2_refused wsX2_refused ({ frames := 0, cells := 0, slots := 0, locals := 0 } : Room) D cI cP cR [.ref h, .int (-5)] ([(h, .inr (2, [.ref qr, .ref qp, .int (nI md), .int (r0), .int (r1), .int (r2), .int (r3)]))]) (fun v w => v = some (.int (-5)) ∧ w = [(h, .inr (2, [.ref qr, .ref qp, .int (nI md), .int (r0), .int (r1 + nI 1), .int (r2), .int (r3)]))]) := by
  refine pw_ofm (cc := cX2_refused) (maxL := 2) (ret := (some .int)) (own := RX2) (by decide +kernel) rfl rfl (Nat.le_of_ble_eq_true rfl) ?_
  intro p_ e_ s m bel meth cd A hE hK hP hD hA hS ls hl
  obtain ⟨hx, hb, hr, hml, hown, hts, hlocks⟩ := hE
  have hNW := hK.2
  have hl : lv_has ls 2 [(0, .ref h), (1, .int (-5))] := hl
  refine lv_iload_n hx hb dX2_refused_0 rfl (lv_at hl 1 rfl) ?_
  refine lv_tableIn (off := 40) (tgt := 41) hx hb dX2_refused_1 (by decide) (by decide) (by decide) (by decide) ?_
  refine lv_aload_n hx hb dX2_refused_41 rfl (lv_at hl 0 rfl) ?_
  refine lv_dup hx hb dX2_refused_42 rfl ?_
  refine va_get (D := D) (ci := 2) (v := .int (r1)) (C := RX2) (T := TX2) (N := 7) hx hb hts hi_X2_refused_2 hown hK.1 hP 0 rfl rfl 4 (by decide) (hts _ hf_X2_refused_152) (fun _ h9 => h9) rfl dX2_refused_43 ?_
  refine lv_iconst (v := nI 1) hx hb dX2_refused_46 (by decide) ?_
  refine lv_iadd hx hb dX2_refused_47 ?_
  refine va_put (D := D) (ci := 2) (v := .int (r1 + (nI 1))) (ty := .int) (C := RX2) (T := TX2) (N := 7) hx hb hts hi_X2_refused_2 tyX2 tyX2_ok nmX2 hown hK.1 hP hD hS 0 rfl rfl 4 (by decide) (hts _ hf_X2_refused_152) (fun _ h9 => h9) rfl (by decide +kernel) rfl rfl (Nat.le_of_ble_eq_true rfl) dX2_refused_48 (fun H locs hP hD hS => ?_)
  have hP : va_P D vwCl ([(h, .inr (2, [.ref qr, .ref qp, .int (nI md), .int (r0), .int (r1 + (nI 1)), .int (r2), .int (r3)]))]) H := hP
  have hD : va_D A ([(h, .inr (2, [.ref qr, .ref qp, .int (nI md), .int (r0), .int (r1 + (nI 1)), .int (r2), .int (r3)]))]) := hD
  refine lv_goto (tgt := 77) hx hb dX2_refused_51 (by decide) ?_
  refine lv_iload_n hx hb dX2_refused_77 rfl (lv_at hl 1 rfl) ?_
  exact pw_iret hx hb hr (rfl) hlocks dX2_refused_78 hS hP hD (⟨rfl, rfl⟩)
theorem hf_X2_refused_155 : Cond.fieldLink RX2 155 "Pegrow" "stateRefusals" "I" ∈ wsX2_refused := by decide +kernel
set_option maxHeartbeats 4000000 in
set_option maxRecDepth 100000 in
theorem c_refused_s (l : Launch) (D : va_G) (cI cP cR : ClassId) (h qr qp md : Nat) (r0 r1 r2 r3 : Int32) : pw_Mm l yX2_refused wsX2_refused ({ frames := 0, cells := 0, slots := 0, locals := 0 } : Room) D cI cP cR [.ref h, .int (-7)] ([(h, .inr (2, [.ref qr, .ref qp, .int (nI md), .int (r0), .int (r1), .int (r2), .int (r3)]))]) (fun v w => v = some (.int (-7)) ∧ w = [(h, .inr (2, [.ref qr, .ref qp, .int (nI md), .int (r0), .int (r1), .int (r2 + nI 1), .int (r3)]))]) := by
  refine pw_ofm (cc := cX2_refused) (maxL := 2) (ret := (some .int)) (own := RX2) (by decide +kernel) rfl rfl (Nat.le_of_ble_eq_true rfl) ?_
  intro p_ e_ s m bel meth cd A hE hK hP hD hA hS ls hl
  obtain ⟨hx, hb, hr, hml, hown, hts, hlocks⟩ := hE
  have hNW := hK.2
  have hl : lv_has ls 2 [(0, .ref h), (1, .int (-7))] := hl
  refine lv_iload_n hx hb dX2_refused_0 rfl (lv_at hl 1 rfl) ?_
  refine lv_tableIn (off := 53) (tgt := 54) hx hb dX2_refused_1 (by decide) (by decide) (by decide) (by decide) ?_
  refine lv_aload_n hx hb dX2_refused_54 rfl (lv_at hl 0 rfl) ?_
  refine lv_dup hx hb dX2_refused_55 rfl ?_
  refine va_get (D := D) (ci := 2) (v := .int (r2)) (C := RX2) (T := TX2) (N := 7) hx hb hts hi_X2_refused_2 hown hK.1 hP 0 rfl rfl 5 (by decide) (hts _ hf_X2_refused_155) (fun _ h9 => h9) rfl dX2_refused_56 ?_
  refine lv_iconst (v := nI 1) hx hb dX2_refused_59 (by decide) ?_
  refine lv_iadd hx hb dX2_refused_60 ?_
  refine va_put (D := D) (ci := 2) (v := .int (r2 + (nI 1))) (ty := .int) (C := RX2) (T := TX2) (N := 7) hx hb hts hi_X2_refused_2 tyX2 tyX2_ok nmX2 hown hK.1 hP hD hS 0 rfl rfl 5 (by decide) (hts _ hf_X2_refused_155) (fun _ h9 => h9) rfl (by decide +kernel) rfl rfl (Nat.le_of_ble_eq_true rfl) dX2_refused_61 (fun H locs hP hD hS => ?_)
  have hP : va_P D vwCl ([(h, .inr (2, [.ref qr, .ref qp, .int (nI md), .int (r0), .int (r1), .int (r2 + (nI 1)), .int (r3)]))]) H := hP
  have hD : va_D A ([(h, .inr (2, [.ref qr, .ref qp, .int (nI md), .int (r0), .int (r1), .int (r2 + (nI 1)), .int (r3)]))]) := hD
  refine lv_goto (tgt := 77) hx hb dX2_refused_64 (by decide) ?_
  refine lv_iload_n hx hb dX2_refused_77 rfl (lv_at hl 1 rfl) ?_
  exact pw_iret hx hb hr (rfl) hlocks dX2_refused_78 hS hP hD (⟨rfl, rfl⟩)
theorem hf_X2_refused_158 : Cond.fieldLink RX2 158 "Pegrow" "oldRefusals" "I" ∈ wsX2_refused := by decide +kernel
set_option maxHeartbeats 4000000 in
set_option maxRecDepth 100000 in
theorem c_refused_o (l : Launch) (D : va_G) (cI cP cR : ClassId) (h qr qp md : Nat) (r0 r1 r2 r3 : Int32) : pw_Mm l yX2_refused wsX2_refused ({ frames := 0, cells := 0, slots := 0, locals := 0 } : Room) D cI cP cR [.ref h, .int (-4)] ([(h, .inr (2, [.ref qr, .ref qp, .int (nI md), .int (r0), .int (r1), .int (r2), .int (r3)]))]) (fun v w => v = some (.int (-4)) ∧ w = [(h, .inr (2, [.ref qr, .ref qp, .int (nI md), .int (r0), .int (r1), .int (r2), .int (r3 + nI 1)]))]) := by
  refine pw_ofm (cc := cX2_refused) (maxL := 2) (ret := (some .int)) (own := RX2) (by decide +kernel) rfl rfl (Nat.le_of_ble_eq_true rfl) ?_
  intro p_ e_ s m bel meth cd A hE hK hP hD hA hS ls hl
  obtain ⟨hx, hb, hr, hml, hown, hts, hlocks⟩ := hE
  have hNW := hK.2
  have hl : lv_has ls 2 [(0, .ref h), (1, .int (-4))] := hl
  refine lv_iload_n hx hb dX2_refused_0 rfl (lv_at hl 1 rfl) ?_
  refine lv_tableOut (tgt := 67) hx hb dX2_refused_1 (Or.inr (by decide)) (by decide) ?_
  refine lv_aload_n hx hb dX2_refused_67 rfl (lv_at hl 0 rfl) ?_
  refine lv_dup hx hb dX2_refused_68 rfl ?_
  refine va_get (D := D) (ci := 2) (v := .int (r3)) (C := RX2) (T := TX2) (N := 7) hx hb hts hi_X2_refused_2 hown hK.1 hP 0 rfl rfl 6 (by decide) (hts _ hf_X2_refused_158) (fun _ h9 => h9) rfl dX2_refused_69 ?_
  refine lv_iconst (v := nI 1) hx hb dX2_refused_72 (by decide) ?_
  refine lv_iadd hx hb dX2_refused_73 ?_
  refine va_put (D := D) (ci := 2) (v := .int (r3 + (nI 1))) (ty := .int) (C := RX2) (T := TX2) (N := 7) hx hb hts hi_X2_refused_2 tyX2 tyX2_ok nmX2 hown hK.1 hP hD hS 0 rfl rfl 6 (by decide) (hts _ hf_X2_refused_158) (fun _ h9 => h9) rfl (by decide +kernel) rfl rfl (Nat.le_of_ble_eq_true rfl) dX2_refused_74 (fun H locs hP hD hS => ?_)
  have hP : va_P D vwCl ([(h, .inr (2, [.ref qr, .ref qp, .int (nI md), .int (r0), .int (r1), .int (r2), .int (r3 + (nI 1))]))]) H := hP
  have hD : va_D A ([(h, .inr (2, [.ref qr, .ref qp, .int (nI md), .int (r0), .int (r1), .int (r2), .int (r3 + (nI 1))]))]) := hD
  refine lv_iload_n hx hb dX2_refused_77 rfl (lv_at hl 1 rfl) ?_
  exact pw_iret hx hb hr (rfl) hlocks dX2_refused_78 hS hP hD (⟨rfl, rfl⟩)
set_option maxHeartbeats 4000000 in
set_option maxRecDepth 100000 in
theorem c_noEnd_e (l : Launch) (D : va_G) (cI cP cR : ClassId) (h qr qp md : Nat) (r0 r1 r2 r3 : Int32) (q : Int32) (hq : q - q / nI 2 * nI 2 = 0) : pw_Mm l yX2_noEnd wsX2_noEnd ({ frames := 1, cells := 0, slots := 0, locals := 21 } : Room) D cI cP cR [.ref h, .int (q)] ([(h, .inr (2, [.ref qr, .ref qp, .int (nI md), .int (r0), .int (r1), .int (r2), .int (r3)]))]) (fun v w => v = some (.int (-6)) ∧ w = [(h, .inr (2, [.ref qr, .ref qp, .int (nI md), .int (r0 + nI 1), .int (r1), .int (r2), .int (r3)]))]) := by
  refine pw_ofm (cc := cX2_noEnd) (maxL := 2) (ret := (some .int)) (own := RX2) (by decide +kernel) rfl rfl (Nat.le_of_ble_eq_true rfl) ?_
  intro p_ e_ s m bel meth cd A hE hK hP hD hA hS ls hl
  obtain ⟨hx, hb, hr, hml, hown, hts, hlocks⟩ := hE
  have hNW := hK.2
  have hl : lv_has ls 2 [(0, .ref h), (1, .int (q))] := hl
  refine lv_iload_n hx hb dX2_noEnd_0 rfl (lv_at hl 1 rfl) ?_
  refine lv_iconst (v := nI 2) hx hb dX2_noEnd_1 (by decide) ?_
  refine lv_irem hx hb dX2_noEnd_2 (by decide) ?_
  refine lv_if_ne (tgt := 15) hx hb dX2_noEnd_3 (by decide) (fun c_1 => ?_) (fun c_1 => ?_)
  · exact absurd hq c_1
  · have _h := c_1
    refine lv_aload_n hx hb dX2_noEnd_6 rfl (lv_at hl 0 rfl) ?_
    refine lv_bipush (v := -6) hx hb dX2_noEnd_7 (by decide) ?_
    -- c_refused_e
    refine pw_cVm (As := [.int (-6)]) (rest := []) (wc := [(h, .inr (2, [.ref qr, .ref qp, .int (nI md), .int (r0), .int (r1), .int (r2), .int (r3)]))]) (wr := []) ⟨hx, hb, hml, hown, hts⟩ (c_refused_e l D cI cP cR h qr qp md r0 r1 r2 r3) (cwV 1 hts gX2_noEnd_X2_refused rfl rfl rfl (by decide +kernel) ⟨Nat.le_of_ble_eq_true rfl, Nat.le_of_ble_eq_true rfl⟩) hK hP hD hS hA [0] [] rfl rfl (by decide) (by decide) (by decide) 0 rfl rfl rfl rfl hl.1 rfl (Nat.le_of_ble_eq_true rfl) dX2_noEnd_9 ⟨Nat.zero_le _, Nat.zero_le _⟩ (fun v1 w1 H locs hq hP hD hS => ?_)
    rcases hq with ⟨rfl, rfl⟩
    have hP : va_P D vwCl ([(h, .inr (2, [.ref qr, .ref qp, .int (nI md), .int (r0 + nI 1), .int (r1), .int (r2), .int (r3)]))]) H := hP
    have hD : va_D A ([(h, .inr (2, [.ref qr, .ref qp, .int (nI md), .int (r0 + nI 1), .int (r1), .int (r2), .int (r3)]))]) := hD
    refine W.eq (g2 := F0 m 12 ls [.int (-6)]) rfl ?_
    refine lv_goto (tgt := 17) hx hb dX2_noEnd_12 (by decide) ?_
    exact pw_iret hx hb hr (rfl) hlocks dX2_noEnd_17 hS hP hD (⟨rfl, rfl⟩)
set_option maxHeartbeats 4000000 in
set_option maxRecDepth 100000 in
theorem c_noEnd_o (l : Launch) (D : va_G) (cI cP cR : ClassId) (h qr qp md : Nat) (r0 r1 r2 r3 : Int32) (q : Int32) (hq : ¬ q - q / nI 2 * nI 2 = 0) : pw_Mp l yX2_noEnd wsX2_noEnd ({ frames := 1, cells := 0, slots := 0, locals := 21 } : Room) D cI cP cR [.ref h, .int (q)] ([(h, .inr (2, [.ref qr, .ref qp, .int (nI md), .int (r0), .int (r1), .int (r2), .int (r3)]))]) (.int (-6)) := by
  refine pw_ofp (cc := cX2_noEnd) (maxL := 2) (ret := (some .int)) (own := RX2) (by decide +kernel) rfl rfl (Nat.le_of_ble_eq_true rfl) ?_
  intro p_ e_ s m bel meth cd hE hK hP hD ls hl
  obtain ⟨hx, hb, hr, hml, hown, hts, hlocks⟩ := hE
  have hNW := hK.2
  have hl : lv_has ls 2 [(0, .ref h), (1, .int (q))] := hl
  refine lv_iload_n hx hb dX2_noEnd_0 rfl (lv_at hl 1 rfl) ?_
  refine lv_iconst (v := nI 2) hx hb dX2_noEnd_1 (by decide) ?_
  refine lv_irem hx hb dX2_noEnd_2 (by decide) ?_
  refine lv_if_ne (tgt := 15) hx hb dX2_noEnd_3 (by decide) (fun c_1 => ?_) (fun c_1 => ?_)
  · have _h := c_1
    refine lv_bipush (v := -6) hx hb dX2_noEnd_15 (by decide) ?_
    exact pw_piret hx hb hr (rfl) hlocks dX2_noEnd_17 (rfl)
  · exact absurd c_1 hq
end
