section
-- ===== PART A: goes FIRST, ahead of the names: the tables' words, and 'selects' of the private methods out of them =====
/-- a private method of a class that the tables say can be made, by its rows of tables_1 -/
def lw_okq (q : MethodName × Nat) : Prop := (q.1.cls ≠ "java/lang/invoke/MethodHandle" ∧ q.1.cls ≠ "java/lang/invoke/VarHandle") ∧ Cond.instantiable q.1.cls q.2 ∈ tables_1 ∧ Cond.privateMethod q.1 ∈ tables_1 ∧ Cond.instanceMethod q.1 ∈ tables_1
theorem lw_p0 : lw_okq (⟨"java/util/ArrayList", "add", "(Ljava/lang/Object;[Ljava/lang/Object;I)V"⟩, 3) := ⟨⟨by decide +kernel, by decide +kernel⟩, List.mem_of_getElem? (i := 29) (by decide +kernel), List.mem_of_getElem? (i := 171) (by decide +kernel), List.mem_of_getElem? (i := 172) (by decide +kernel)⟩
theorem lw_p1 : lw_okq (⟨"java/util/ArrayList", "grow", "()[Ljava/lang/Object;"⟩, 3) := ⟨⟨by decide +kernel, by decide +kernel⟩, List.mem_of_getElem? (i := 29) (by decide +kernel), List.mem_of_getElem? (i := 175) (by decide +kernel), List.mem_of_getElem? (i := 176) (by decide +kernel)⟩
theorem lw_p2 : lw_okq (⟨"java/util/ArrayList", "grow", "(I)[Ljava/lang/Object;"⟩, 3) := ⟨⟨by decide +kernel, by decide +kernel⟩, List.mem_of_getElem? (i := 29) (by decide +kernel), List.mem_of_getElem? (i := 179) (by decide +kernel), List.mem_of_getElem? (i := 180) (by decide +kernel)⟩
theorem lw_p3 : lw_okq (⟨"ShipSets", "tellerAt", "(I)LShipSets$Teller;"⟩, 7) := ⟨⟨by decide +kernel, by decide +kernel⟩, List.mem_of_getElem? (i := 21) (by decide +kernel), List.mem_of_getElem? (i := 229) (by decide +kernel), List.mem_of_getElem? (i := 230) (by decide +kernel)⟩
theorem lw_p4 : lw_okq (⟨"ShipSets$Teller", "placeOf", "(I)I"⟩, 4) := ⟨⟨by decide +kernel, by decide +kernel⟩, List.mem_of_getElem? (i := 104) (by decide +kernel), List.mem_of_getElem? (i := 269) (by decide +kernel), List.mem_of_getElem? (i := 270) (by decide +kernel)⟩
theorem lw_p5 : lw_okq (⟨"java/util/ArrayList", "rangeCheckForAdd", "(I)V"⟩, 3) := ⟨⟨by decide +kernel, by decide +kernel⟩, List.mem_of_getElem? (i := 29) (by decide +kernel), List.mem_of_getElem? (i := 323) (by decide +kernel), List.mem_of_getElem? (i := 324) (by decide +kernel)⟩
theorem lw_p6 : lw_okq (⟨"ShipSets", "setAt", "(I)LShipSets$ShipSet;"⟩, 7) := ⟨⟨by decide +kernel, by decide +kernel⟩, List.mem_of_getElem? (i := 21) (by decide +kernel), List.mem_of_getElem? (i := 369) (by decide +kernel), List.mem_of_getElem? (i := 370) (by decide +kernel)⟩
theorem lw_p7 : lw_okq (⟨"ShipSets", "countConflicts", "(LShipSets$Holding;)I"⟩, 7) := ⟨⟨by decide +kernel, by decide +kernel⟩, List.mem_of_getElem? (i := 21) (by decide +kernel), List.mem_of_getElem? (i := 378) (by decide +kernel), List.mem_of_getElem? (i := 379) (by decide +kernel)⟩
theorem lw_p8 : lw_okq (⟨"ShipSets", "isInConflict", "(LShipSets$Holding;I)Z"⟩, 7) := ⟨⟨by decide +kernel, by decide +kernel⟩, List.mem_of_getElem? (i := 21) (by decide +kernel), List.mem_of_getElem? (i := 382) (by decide +kernel), List.mem_of_getElem? (i := 383) (by decide +kernel)⟩
theorem lw_p9 : lw_okq (⟨"ShipSets", "valueOn", "(LShipSets$Holding;II)J"⟩, 7) := ⟨⟨by decide +kernel, by decide +kernel⟩, List.mem_of_getElem? (i := 21) (by decide +kernel), List.mem_of_getElem? (i := 386) (by decide +kernel), List.mem_of_getElem? (i := 387) (by decide +kernel)⟩
theorem lw_p10 : lw_okq (⟨"ShipSets", "findCurrent", "(LShipSets$Holding;II)V"⟩, 7) := ⟨⟨by decide +kernel, by decide +kernel⟩, List.mem_of_getElem? (i := 21) (by decide +kernel), List.mem_of_getElem? (i := 390) (by decide +kernel), List.mem_of_getElem? (i := 391) (by decide +kernel)⟩
theorem lw_p11 : lw_okq (⟨"ShipSets", "settledValue", "(LShipSets$Holding;I)J"⟩, 7) := ⟨⟨by decide +kernel, by decide +kernel⟩, List.mem_of_getElem? (i := 21) (by decide +kernel), List.mem_of_getElem? (i := 419) (by decide +kernel), List.mem_of_getElem? (i := 420) (by decide +kernel)⟩
theorem lw_p12 : lw_okq (⟨"ShipSets", "cellInConflict", "(LShipSets$Holding;I)I"⟩, 7) := ⟨⟨by decide +kernel, by decide +kernel⟩, List.mem_of_getElem? (i := 21) (by decide +kernel), List.mem_of_getElem? (i := 456) (by decide +kernel), List.mem_of_getElem? (i := 457) (by decide +kernel)⟩
theorem lw_p13 : lw_okq (⟨"ShipSets$Teller", "lastLostFrom", "(I)I"⟩, 4) := ⟨⟨by decide +kernel, by decide +kernel⟩, List.mem_of_getElem? (i := 104) (by decide +kernel), List.mem_of_getElem? (i := 553) (by decide +kernel), List.mem_of_getElem? (i := 554) (by decide +kernel)⟩
theorem lw_p14 : lw_okq (⟨"ShipSets$Clock", "lineFor", "(J)I"⟩, 3) := ⟨⟨by decide +kernel, by decide +kernel⟩, List.mem_of_getElem? (i := 134) (by decide +kernel), List.mem_of_getElem? (i := 588) (by decide +kernel), List.mem_of_getElem? (i := 589) (by decide +kernel)⟩
theorem lw_p15 : lw_okq (⟨"ShipSetsModel", "isTeller", "(I)Z"⟩, 27) := ⟨⟨by decide +kernel, by decide +kernel⟩, List.mem_of_getElem? (i := 601) (by decide +kernel), List.mem_of_getElem? (i := 698) (by decide +kernel), List.mem_of_getElem? (i := 699) (by decide +kernel)⟩
def lw_privs_1 : List (MethodName × Nat) := [(⟨"java/util/ArrayList", "add", "(Ljava/lang/Object;[Ljava/lang/Object;I)V"⟩, 3), (⟨"java/util/ArrayList", "grow", "()[Ljava/lang/Object;"⟩, 3), (⟨"java/util/ArrayList", "grow", "(I)[Ljava/lang/Object;"⟩, 3), (⟨"ShipSets", "tellerAt", "(I)LShipSets$Teller;"⟩, 7), (⟨"ShipSets$Teller", "placeOf", "(I)I"⟩, 4), (⟨"java/util/ArrayList", "rangeCheckForAdd", "(I)V"⟩, 3), (⟨"ShipSets", "setAt", "(I)LShipSets$ShipSet;"⟩, 7), (⟨"ShipSets", "countConflicts", "(LShipSets$Holding;)I"⟩, 7), (⟨"ShipSets", "isInConflict", "(LShipSets$Holding;I)Z"⟩, 7), (⟨"ShipSets", "valueOn", "(LShipSets$Holding;II)J"⟩, 7), (⟨"ShipSets", "findCurrent", "(LShipSets$Holding;II)V"⟩, 7), (⟨"ShipSets", "settledValue", "(LShipSets$Holding;I)J"⟩, 7), (⟨"ShipSets", "cellInConflict", "(LShipSets$Holding;I)I"⟩, 7), (⟨"ShipSets$Teller", "lastLostFrom", "(I)I"⟩, 4), (⟨"ShipSets$Clock", "lineFor", "(J)I"⟩, 3), (⟨"ShipSetsModel", "isTeller", "(I)Z"⟩, 27)]
theorem lw_r1 : ∀ q ∈ lw_privs_1, lw_okq q := List.forall_mem_cons.mpr ⟨lw_p0, List.forall_mem_cons.mpr ⟨lw_p1, List.forall_mem_cons.mpr ⟨lw_p2, List.forall_mem_cons.mpr ⟨lw_p3, List.forall_mem_cons.mpr ⟨lw_p4, List.forall_mem_cons.mpr ⟨lw_p5, List.forall_mem_cons.mpr ⟨lw_p6, List.forall_mem_cons.mpr ⟨lw_p7, List.forall_mem_cons.mpr ⟨lw_p8, List.forall_mem_cons.mpr ⟨lw_p9, List.forall_mem_cons.mpr ⟨lw_p10, List.forall_mem_cons.mpr ⟨lw_p11, List.forall_mem_cons.mpr ⟨lw_p12, List.forall_mem_cons.mpr ⟨lw_p13, List.forall_mem_cons.mpr ⟨lw_p14, List.forall_mem_cons.mpr ⟨lw_p15, fun _ h => absurd h List.not_mem_nil⟩⟩⟩⟩⟩⟩⟩⟩⟩⟩⟩⟩⟩⟩⟩⟩
theorem lw_p16 : lw_okq (⟨"ShipSetsModel", "told", "(II)I"⟩, 27) := ⟨⟨by decide +kernel, by decide +kernel⟩, List.mem_of_getElem? (i := 601) (by decide +kernel), List.mem_of_getElem? (i := 711) (by decide +kernel), List.mem_of_getElem? (i := 712) (by decide +kernel)⟩
theorem lw_p17 : lw_okq (⟨"ShipSetsModel", "isSet", "(I)Z"⟩, 27) := ⟨⟨by decide +kernel, by decide +kernel⟩, List.mem_of_getElem? (i := 601) (by decide +kernel), List.mem_of_getElem? (i := 727) (by decide +kernel), List.mem_of_getElem? (i := 728) (by decide +kernel)⟩
theorem lw_p18 : lw_okq (⟨"ShipSetsModel", "valueOf", "(IIII)J"⟩, 27) := ⟨⟨by decide +kernel, by decide +kernel⟩, List.mem_of_getElem? (i := 601) (by decide +kernel), List.mem_of_getElem? (i := 731) (by decide +kernel), List.mem_of_getElem? (i := 732) (by decide +kernel)⟩
theorem lw_p19 : lw_okq (⟨"ShipSetsModel", "findCurrent", "(IIII)I"⟩, 27) := ⟨⟨by decide +kernel, by decide +kernel⟩, List.mem_of_getElem? (i := 601) (by decide +kernel), List.mem_of_getElem? (i := 735) (by decide +kernel), List.mem_of_getElem? (i := 736) (by decide +kernel)⟩
theorem lw_p20 : lw_okq (⟨"ShipSetsModel", "isOf", "(IIIII)Z"⟩, 27) := ⟨⟨by decide +kernel, by decide +kernel⟩, List.mem_of_getElem? (i := 601) (by decide +kernel), List.mem_of_getElem? (i := 739) (by decide +kernel), List.mem_of_getElem? (i := 740) (by decide +kernel)⟩
theorem lw_p21 : lw_okq (⟨"ShipSetsModel", "counts", "(IIII)Z"⟩, 27) := ⟨⟨by decide +kernel, by decide +kernel⟩, List.mem_of_getElem? (i := 601) (by decide +kernel), List.mem_of_getElem? (i := 744) (by decide +kernel), List.mem_of_getElem? (i := 745) (by decide +kernel)⟩
theorem lw_p22 : lw_okq (⟨"ShipSetsModel", "isConflict", "(III)Z"⟩, 27) := ⟨⟨by decide +kernel, by decide +kernel⟩, List.mem_of_getElem? (i := 601) (by decide +kernel), List.mem_of_getElem? (i := 752) (by decide +kernel), List.mem_of_getElem? (i := 753) (by decide +kernel)⟩
theorem lw_p23 : lw_okq (⟨"ShipSetsModel", "inBlock", "(II)Z"⟩, 27) := ⟨⟨by decide +kernel, by decide +kernel⟩, List.mem_of_getElem? (i := 601) (by decide +kernel), List.mem_of_getElem? (i := 790) (by decide +kernel), List.mem_of_getElem? (i := 791) (by decide +kernel)⟩
def lw_privs_2 : List (MethodName × Nat) := [(⟨"ShipSetsModel", "told", "(II)I"⟩, 27), (⟨"ShipSetsModel", "isSet", "(I)Z"⟩, 27), (⟨"ShipSetsModel", "valueOf", "(IIII)J"⟩, 27), (⟨"ShipSetsModel", "findCurrent", "(IIII)I"⟩, 27), (⟨"ShipSetsModel", "isOf", "(IIIII)Z"⟩, 27), (⟨"ShipSetsModel", "counts", "(IIII)Z"⟩, 27), (⟨"ShipSetsModel", "isConflict", "(III)Z"⟩, 27), (⟨"ShipSetsModel", "inBlock", "(II)Z"⟩, 27)]
theorem lw_r2 : ∀ q ∈ lw_privs_2, lw_okq q := List.forall_mem_cons.mpr ⟨lw_p16, List.forall_mem_cons.mpr ⟨lw_p17, List.forall_mem_cons.mpr ⟨lw_p18, List.forall_mem_cons.mpr ⟨lw_p19, List.forall_mem_cons.mpr ⟨lw_p20, List.forall_mem_cons.mpr ⟨lw_p21, List.forall_mem_cons.mpr ⟨lw_p22, List.forall_mem_cons.mpr ⟨lw_p23, fun _ h => absurd h List.not_mem_nil⟩⟩⟩⟩⟩⟩⟩⟩
def lw_privs : List (MethodName × Nat) := lw_privs_1 ++ (lw_privs_2)
def lw_tbl : List Cond := k2_sels lw_privs ++ tables_1
theorem lw_privs_ok : ∀ q ∈ lw_privs, lw_okq q := by
  show ∀ q ∈ lw_privs_1 ++ (lw_privs_2), lw_okq q
  exact List.forall_mem_append.mpr ⟨lw_r1, lw_r2⟩
-- own names from here on
def R_S : String := "ShipSets"
def T_S : u_T := fun k => match k with
  | 0 => ("ShipSets", "tellers", "Ljava/util/ArrayList;", true)
  | 1 => ("ShipSets", "sets", "Ljava/util/ArrayList;", true)
  | 2 => ("ShipSets", "settlings", "Ljava/util/ArrayList;", true)
  | 3 => ("ShipSets", "newest", "[LShipSets$Telling;", true)
  | 4 => ("ShipSets", "rights", "[Z", true)
  | 5 => ("ShipSets", "current", "LShipSets$Current;", true)
  | _ => ("ShipSets", "tellings", "I", false)
def ty_S : Nat → FieldType := fun k => match k with
  | 0 => .object "java/util/ArrayList"
  | 1 => .object "java/util/ArrayList"
  | 2 => .object "java/util/ArrayList"
  | 3 => .array (.object "ShipSets$Telling")
  | 4 => .array .boolean
  | 5 => .object "ShipSets$Current"
  | _ => .int
def R_Teller : String := "ShipSets$Teller"
def T_Teller : u_T := fun k => match k with
  | 0 => ("ShipSets$Teller", "told", "Ljava/util/ArrayList;", true)
  | 1 => ("ShipSets$Teller", "blocks", "LShipSets$Blocks;", true)
  | 2 => ("ShipSets$Teller", "clock", "LShipSets$Clock;", true)
  | _ => ("ShipSets$Teller", "closed", "Z", false)
def ty_Teller : Nat → FieldType := fun k => match k with
  | 0 => .object "java/util/ArrayList"
  | 1 => .object "ShipSets$Blocks"
  | 2 => .object "ShipSets$Clock"
  | _ => .boolean
def R_Blocks : String := "ShipSets$Blocks"
def T_Blocks : u_T := fun k => match k with
  | 0 => ("ShipSets$Blocks", "from", "[I", true)
  | 1 => ("ShipSets$Blocks", "to", "[I", true)
  | 2 => ("ShipSets$Blocks", "next", "[I", true)
  | _ => ("ShipSets$Blocks", "count", "I", false)
def ty_Blocks : Nat → FieldType := fun k => match k with
  | 0 => .array .int
  | 1 => .array .int
  | 2 => .array .int
  | _ => .int
def R_Clock : String := "ShipSets$Clock"
def T_Clock : u_T := fun k => match k with
  | 0 => ("ShipSets$Clock", "seconds", "[J", true)
  | 1 => ("ShipSets$Clock", "reals", "[J", true)
  | _ => ("ShipSets$Clock", "count", "I", false)
def ty_Clock : Nat → FieldType := fun k => match k with
  | 0 => .array .long
  | 1 => .array .long
  | _ => .int
def R_ShipSet : String := "ShipSets$ShipSet"
def T_ShipSet : u_T := fun k => match k with
  | 0 => ("ShipSets$ShipSet", "now", "LShipSets$Holding;", true)
  | 1 => ("ShipSets$ShipSet", "shown", "LShipSets$Holding;", true)
  | _ => ("ShipSets$ShipSet", "inBatch", "Z", false)
def ty_ShipSet : Nat → FieldType := fun k => match k with
  | 0 => .object "ShipSets$Holding"
  | 1 => .object "ShipSets$Holding"
  | _ => .boolean
def R_Holding : String := "ShipSets$Holding"
def T_Holding : u_T := fun k => match k with
  | 0 => ("ShipSets$Holding", "toldBy", "[I", true)
  | _ => ("ShipSets$Holding", "settlingBits", "J", false)
def ty_Holding : Nat → FieldType := fun k => match k with
  | 0 => .array .int
  | _ => .long
def R_Settling : String := "ShipSets$Settling"
def T_Settling : u_T := fun k => match k with
  | 0 => ("ShipSets$Settling", "cell", "I", true)
  | 1 => ("ShipSets$Settling", "teller", "I", true)
  | _ => ("ShipSets$Settling", "numbers", "[I", true)
def ty_Settling : Nat → FieldType := fun k => match k with
  | 0 => .int
  | 1 => .int
  | _ => .array .int
def R_Telling : String := "ShipSets$Telling"
def T_Telling : u_T := fun k => match k with
  | 0 => ("ShipSets$Telling", "teller", "I", true)
  | 1 => ("ShipSets$Telling", "order", "I", true)
  | 2 => ("ShipSets$Telling", "number", "I", true)
  | 3 => ("ShipSets$Telling", "cell", "I", true)
  | 4 => ("ShipSets$Telling", "value", "J", true)
  | 5 => ("ShipSets$Telling", "on", "I", true)
  | _ => ("ShipSets$Telling", "earlier", "LShipSets$Telling;", true)
def ty_Telling : Nat → FieldType := fun k => match k with
  | 0 => .int
  | 1 => .int
  | 2 => .int
  | 3 => .int
  | 4 => .long
  | 5 => .int
  | _ => .object "ShipSets$Telling"
def R_Current : String := "ShipSets$Current"
def T_Current : u_T := fun k => match k with
  | 0 => ("ShipSets$Current", "numbers", "[I", true)
  | _ => ("ShipSets$Current", "values", "[J", true)
def ty_Current : Nat → FieldType := fun k => match k with
  | 0 => .array .int
  | _ => .array .long
def R_AL : String := "java/util/ArrayList"
def T_AL : u_T := fun k => match k with
  | 0 => ("java/util/ArrayList", "elementData", "[Ljava/lang/Object;", false)
  | 1 => ("java/util/ArrayList", "size", "I", false)
  | _ => ("java/util/AbstractList", "modCount", "I", false)
def ty_AL : Nat → FieldType := fun k => match k with
  | 0 => .array (.object "java/lang/Object")
  | 1 => .int
  | _ => .int
def R_M : String := "ShipSetsModel"
def T_M : u_T := fun k => match k with
  | 0 => ("ShipSetsModel", "tellers", "I", false)
  | 1 => ("ShipSetsModel", "closed", "[Z", true)
  | 2 => ("ShipSetsModel", "tellings", "I", false)
  | 3 => ("ShipSetsModel", "who", "[I", true)
  | 4 => ("ShipSetsModel", "number", "[I", true)
  | 5 => ("ShipSetsModel", "thing", "[I", true)
  | 6 => ("ShipSetsModel", "kind", "[I", true)
  | 7 => ("ShipSetsModel", "value", "[J", true)
  | 8 => ("ShipSetsModel", "from", "[I", true)
  | 9 => ("ShipSetsModel", "sets", "I", false)
  | 10 => ("ShipSetsModel", "holds", "[Z", true)
  | 11 => ("ShipSetsModel", "settled", "[Z", true)
  | 12 => ("ShipSetsModel", "inBatch", "[Z", true)
  | 13 => ("ShipSetsModel", "settlings", "I", false)
  | 14 => ("ShipSetsModel", "ofThing", "[I", true)
  | 15 => ("ShipSetsModel", "ofKind", "[I", true)
  | 16 => ("ShipSetsModel", "ofTeller", "[I", true)
  | 17 => ("ShipSetsModel", "kept", "[Z", true)
  | 18 => ("ShipSetsModel", "rights", "[Z", true)
  | 19 => ("ShipSetsModel", "blocks", "[I", true)
  | 20 => ("ShipSetsModel", "blockFrom", "[I", true)
  | 21 => ("ShipSetsModel", "blockTo", "[I", true)
  | 22 => ("ShipSetsModel", "given", "[Z", true)
  | 23 => ("ShipSetsModel", "marks", "[I", true)
  | 24 => ("ShipSetsModel", "clock", "[J", true)
  | 25 => ("ShipSetsModel", "real", "[J", true)
  | _ => ("ShipSetsModel", "current", "[Z", true)
def ty_M : Nat → FieldType := fun k => match k with
  | 0 => .int
  | 1 => .array .boolean
  | 2 => .int
  | 3 => .array .int
  | 4 => .array .int
  | 5 => .array .int
  | 6 => .array .int
  | 7 => .array .long
  | 8 => .array .int
  | 9 => .int
  | 10 => .array .boolean
  | 11 => .array .boolean
  | 12 => .array .boolean
  | 13 => .int
  | 14 => .array .int
  | 15 => .array .int
  | 16 => .array .int
  | 17 => .array .boolean
  | 18 => .array .boolean
  | 19 => .array .int
  | 20 => .array .int
  | 21 => .array .int
  | 22 => .array .boolean
  | 23 => .array .int
  | 24 => .array .long
  | 25 => .array .long
  | _ => .array .boolean
def gCl : List vw_C := [(R_S, T_S, 7), (R_Teller, T_Teller, 4), (R_Blocks, T_Blocks, 4), (R_Clock, T_Clock, 3), (R_ShipSet, T_ShipSet, 3), (R_Holding, T_Holding, 2), (R_Settling, T_Settling, 3), (R_Telling, T_Telling, 7), (R_Current, T_Current, 2), (R_AL, T_AL, 3), (R_M, T_M, 27)]
def gTys : List FieldType := [.int, .long, .boolean, .object "ShipSets$Telling", .object "java/lang/Object"]
def gT_0 : List Cond := [(Jvm.Cond.initialized "ShipSetsLaw"), (Jvm.Cond.initialized "ShipSets"), (Jvm.Cond.initialized "java/util/AbstractCollection"), (Jvm.Cond.initialized "java/util/AbstractList"), (Jvm.Cond.initialized "java/util/ArrayList"), (Jvm.Cond.initialized "ShipSets$Current"), (Jvm.Cond.initialized "ShipSetsModel"), (Jvm.Cond.initialized "ShipSets$Teller"), (Jvm.Cond.initialized "ShipSets$Blocks"), (Jvm.Cond.initialized "ShipSets$Clock"), (Jvm.Cond.initialized "jdk/internal/util/ArraysSupport"), (Jvm.Cond.initialized "java/lang/Math"), (Jvm.Cond.initialized "java/util/Arrays"), (Jvm.Cond.initialized "java/lang/System"), (Jvm.Cond.initialized "java/util/Objects"), (Jvm.Cond.initialized "jdk/internal/util/Preconditions"), (Jvm.Cond.initialized "ShipSets$Telling"), (Jvm.Cond.initialized "ShipSets$ShipSet"), (Jvm.Cond.initialized "ShipSets$Holding"), (Jvm.Cond.initialized "ShipSets$Settling"), (Jvm.Cond.classLink "ShipSetsLaw" (7 : Nat) "ShipSets"), (Jvm.Cond.instantiable "ShipSets" (7 : Nat)), (Jvm.Cond.methodLink "ShipSetsLaw" (9 : Nat) ({ cls := "ShipSets", name := "<init>", desc := "()V" } : Jvm.MethodName)), (Jvm.Cond.instanceMethod ({ cls := "ShipSets", name := "<init>", desc := "()V" } : Jvm.MethodName)), (Jvm.Cond.code ({ cls := "ShipSets", name := "<init>", desc := "()V" } : Jvm.MethodName) prog_1_method_1_code (1 : Nat) (Option.none : Option Jvm.ClassFile.FieldType)), (Jvm.Cond.methodLink "ShipSets" (5 : Nat) ({ cls := "java/lang/Object", name := "<init>", desc := "()V" } : Jvm.MethodName)), (Jvm.Cond.instanceMethod ({ cls := "java/lang/Object", name := "<init>", desc := "()V" } : Jvm.MethodName)), (Jvm.Cond.code ({ cls := "java/lang/Object", name := "<init>", desc := "()V" } : Jvm.MethodName) object_method_1_code (1 : Nat) (Option.none : Option Jvm.ClassFile.FieldType)), (Jvm.Cond.classLink "ShipSets" (11 : Nat) "java/util/ArrayList"), (Jvm.Cond.instantiable "java/util/ArrayList" (3 : Nat)), (Jvm.Cond.methodLink "ShipSets" (13 : Nat) ({ cls := "java/util/ArrayList", name := "<init>", desc := "()V" } : Jvm.MethodName)), (Jvm.Cond.instanceMethod ({ cls := "java/util/ArrayList", name := "<init>", desc := "()V" } : Jvm.MethodName)), (Jvm.Cond.code ({ cls := "java/util/ArrayList", name := "<init>", desc := "()V" } : Jvm.MethodName) prog_19_method_2_code (1 : Nat) (Option.none : Option Jvm.ClassFile.FieldType)), (Jvm.Cond.methodLink "java/util/ArrayList" (1 : Nat) ({ cls := "java/util/AbstractList", name := "<init>", desc := "()V" } : Jvm.MethodName)), (Jvm.Cond.instanceMethod ({ cls := "java/util/AbstractList", name := "<init>", desc := "()V" } : Jvm.MethodName)), (Jvm.Cond.code ({ cls := "java/util/AbstractList", name := "<init>", desc := "()V" } : Jvm.MethodName) prog_18_method_1_code (1 : Nat) (Option.none : Option Jvm.ClassFile.FieldType)), (Jvm.Cond.methodLink "java/util/AbstractList" (1 : Nat) ({ cls := "java/util/AbstractCollection", name := "<init>", desc := "()V" } : Jvm.MethodName)), (Jvm.Cond.instanceMethod ({ cls := "java/util/AbstractCollection", name := "<init>", desc := "()V" } : Jvm.MethodName)), (Jvm.Cond.code ({ cls := "java/util/AbstractCollection", name := "<init>", desc := "()V" } : Jvm.MethodName) prog_17_method_1_code (1 : Nat) (Option.none : Option Jvm.ClassFile.FieldType)), (Jvm.Cond.methodLink "java/util/AbstractCollection" (1 : Nat) ({ cls := "java/lang/Object", name := "<init>", desc := "()V" } : Jvm.MethodName)), (Jvm.Cond.fieldLink "java/util/ArrayList" (39 : Nat) "java/util/ArrayList" "DEFAULTCAPACITY_EMPTY_ELEMENTDATA" "[Ljava/lang/Object;"), (Jvm.Cond.fieldLink "java/util/ArrayList" (9 : Nat) "java/util/ArrayList" "elementData" "[Ljava/lang/Object;"), (Jvm.Cond.fieldLink "java/util/ArrayList" (48 : Nat) "java/util/ArrayList" "size" "I"), (Jvm.Cond.fieldLink "java/util/AbstractList" (7 : Nat) "java/util/AbstractList" "modCount" "I"), (Jvm.Cond.fieldLink "java/util/ArrayList" (63 : Nat) "java/util/ArrayList" "modCount" "I"), (Jvm.Cond.sameField "java/util/ArrayList" "java/util/AbstractList" "modCount" "I"), (Jvm.Cond.lays "java/util/ArrayList" "java/util/ArrayList" "elementData" "[Ljava/lang/Object;"), (Jvm.Cond.lays "java/util/ArrayList" "java/util/ArrayList" "size" "I"), (Jvm.Cond.lays "java/util/ArrayList" "java/util/AbstractList" "modCount" "I"), (Jvm.Cond.classLink "ShipSets" (24 : Nat) "ShipSets$Telling"), (Jvm.Cond.classLink "ShipSets" (34 : Nat) "ShipSets$Current"), (Jvm.Cond.instantiable "ShipSets$Current" (2 : Nat)), (Jvm.Cond.instanceMethod ({ cls := "ShipSets$Current", name := "<init>", desc := "()V" } : Jvm.MethodName)), (Jvm.Cond.code ({ cls := "ShipSets$Current", name := "<init>", desc := "()V" } : Jvm.MethodName) prog_4_method_1_code (1 : Nat) (Option.none : Option Jvm.ClassFile.FieldType)), (Jvm.Cond.methodLink "ShipSets$Current" (3 : Nat) ({ cls := "java/lang/Object", name := "<init>", desc := "()V" } : Jvm.MethodName)), (Jvm.Cond.fieldLink "ShipSets$Current" (9 : Nat) "ShipSets$Current" "numbers" "[I"), (Jvm.Cond.fieldLink "ShipSets$Current" (15 : Nat) "ShipSets$Current" "values" "[J"), (Jvm.Cond.laysFinal "ShipSets$Current" "ShipSets$Current" "numbers" "[I"), (Jvm.Cond.laysFinal "ShipSets$Current" "ShipSets$Current" "values" "[J"), (Jvm.Cond.arrayClass Jvm.ClassFile.FieldType.boolean), (Jvm.Cond.arrayClass Jvm.ClassFile.FieldType.int), (Jvm.Cond.arrayClass Jvm.ClassFile.FieldType.long), (Jvm.Cond.fieldLink "ShipSets" (14 : Nat) "ShipSets" "tellers" "Ljava/util/ArrayList;"), (Jvm.Cond.fieldLink "ShipSets" (18 : Nat) "ShipSets" "sets" "Ljava/util/ArrayList;"), (Jvm.Cond.fieldLink "ShipSets" (21 : Nat) "ShipSets" "settlings" "Ljava/util/ArrayList;"), (Jvm.Cond.fieldLink "ShipSets" (26 : Nat) "ShipSets" "newest" "[LShipSets$Telling;"), (Jvm.Cond.fieldLink "ShipSets" (30 : Nat) "ShipSets" "rights" "[Z"), (Jvm.Cond.fieldLink "ShipSets" (37 : Nat) "ShipSets" "current" "LShipSets$Current;"), (Jvm.Cond.fieldLink "ShipSets" (41 : Nat) "ShipSets" "tellings" "I"), (Jvm.Cond.laysFinal "ShipSets" "ShipSets" "tellers" "Ljava/util/ArrayList;"), (Jvm.Cond.laysFinal "ShipSets" "ShipSets" "sets" "Ljava/util/ArrayList;"), (Jvm.Cond.laysFinal "ShipSets" "ShipSets" "settlings" "Ljava/util/ArrayList;"), (Jvm.Cond.laysFinal "ShipSets" "ShipSets" "newest" "[LShipSets$Telling;"), (Jvm.Cond.laysFinal "ShipSets" "ShipSets" "rights" "[Z"), (Jvm.Cond.laysFinal "ShipSets" "ShipSets" "current" "LShipSets$Current;"), (Jvm.Cond.lays "ShipSets" "ShipSets" "tellings" "I"), (Jvm.Cond.methodLink "ShipSetsLaw" (13 : Nat) ({ cls := "ShipSets", name := "teller", desc := "()I" } : Jvm.MethodName)), (Jvm.Cond.instanceMethod ({ cls := "ShipSets", name := "teller", desc := "()I" } : Jvm.MethodName)), (Jvm.Cond.selects "ShipSets" ({ cls := "ShipSets", name := "teller", desc := "()I" } : Jvm.MethodName) ({ cls := "ShipSets", name := "teller", desc := "()I" } : Jvm.MethodName)), (Jvm.Cond.code ({ cls := "ShipSets", name := "teller", desc := "()I" } : Jvm.MethodName) prog_1_method_2_code (1 : Nat) (Option.some Jvm.ClassFile.FieldType.int)), (Jvm.Cond.methodLink "ShipSets" (45 : Nat) ({ cls := "java/util/ArrayList", name := "size", desc := "()I" } : Jvm.MethodName)), (Jvm.Cond.instanceMethod ({ cls := "java/util/ArrayList", name := "size", desc := "()I" } : Jvm.MethodName)), (Jvm.Cond.selects "java/util/ArrayList" ({ cls := "java/util/ArrayList", name := "size", desc := "()I" } : Jvm.MethodName) ({ cls := "java/util/ArrayList", name := "size", desc := "()I" } : Jvm.MethodName)), (Jvm.Cond.code ({ cls := "java/util/ArrayList", name := "size", desc := "()I" } : Jvm.MethodName) prog_19_method_8_code (1 : Nat) (Option.some Jvm.ClassFile.FieldType.int)), (Jvm.Cond.classLink "ShipSets" (49 : Nat) "ShipSets$Teller"), (Jvm.Cond.instantiable "ShipSets$Teller" (4 : Nat)), (Jvm.Cond.instanceMethod ({ cls := "ShipSets$Teller", name := "<init>", desc := "()V" } : Jvm.MethodName)), (Jvm.Cond.code ({ cls := "ShipSets$Teller", name := "<init>", desc := "()V" } : Jvm.MethodName) prog_8_method_1_code (1 : Nat) (Option.none : Option Jvm.ClassFile.FieldType)), (Jvm.Cond.methodLink "ShipSets$Teller" (3 : Nat) ({ cls := "java/lang/Object", name := "<init>", desc := "()V" } : Jvm.MethodName)), (Jvm.Cond.classLink "ShipSets$Teller" (9 : Nat) "java/util/ArrayList"), (Jvm.Cond.methodLink "ShipSets$Teller" (11 : Nat) ({ cls := "java/util/ArrayList", name := "<init>", desc := "()V" } : Jvm.MethodName)), (Jvm.Cond.classLink "ShipSets$Teller" (18 : Nat) "ShipSets$Blocks"), (Jvm.Cond.instantiable "ShipSets$Blocks" (4 : Nat)), (Jvm.Cond.instanceMethod ({ cls := "ShipSets$Blocks", name := "<init>", desc := "()V" } : Jvm.MethodName)), (Jvm.Cond.code ({ cls := "ShipSets$Blocks", name := "<init>", desc := "()V" } : Jvm.MethodName) prog_2_method_1_code (1 : Nat) (Option.none : Option Jvm.ClassFile.FieldType)), (Jvm.Cond.methodLink "ShipSets$Blocks" (3 : Nat) ({ cls := "java/lang/Object", name := "<init>", desc := "()V" } : Jvm.MethodName)), (Jvm.Cond.fieldLink "ShipSets$Blocks" (9 : Nat) "ShipSets$Blocks" "from" "[I"), (Jvm.Cond.fieldLink "ShipSets$Blocks" (15 : Nat) "ShipSets$Blocks" "to" "[I"), (Jvm.Cond.fieldLink "ShipSets$Blocks" (18 : Nat) "ShipSets$Blocks" "next" "[I"), (Jvm.Cond.fieldLink "ShipSets$Blocks" (21 : Nat) "ShipSets$Blocks" "count" "I"), (Jvm.Cond.laysFinal "ShipSets$Blocks" "ShipSets$Blocks" "from" "[I"), (Jvm.Cond.laysFinal "ShipSets$Blocks" "ShipSets$Blocks" "to" "[I"), (Jvm.Cond.laysFinal "ShipSets$Blocks" "ShipSets$Blocks" "next" "[I"), (Jvm.Cond.lays "ShipSets$Blocks" "ShipSets$Blocks" "count" "I"), (Jvm.Cond.classLink "ShipSets$Teller" (25 : Nat) "ShipSets$Clock"), (Jvm.Cond.instantiable "ShipSets$Clock" (3 : Nat)), (Jvm.Cond.instanceMethod ({ cls := "ShipSets$Clock", name := "<init>", desc := "()V" } : Jvm.MethodName)), (Jvm.Cond.code ({ cls := "ShipSets$Clock", name := "<init>", desc := "()V" } : Jvm.MethodName) prog_3_method_1_code (1 : Nat) (Option.none : Option Jvm.ClassFile.FieldType)), (Jvm.Cond.methodLink "ShipSets$Clock" (3 : Nat) ({ cls := "java/lang/Object", name := "<init>", desc := "()V" } : Jvm.MethodName)), (Jvm.Cond.fieldLink "ShipSets$Clock" (9 : Nat) "ShipSets$Clock" "seconds" "[J"), (Jvm.Cond.fieldLink "ShipSets$Clock" (15 : Nat) "ShipSets$Clock" "reals" "[J"), (Jvm.Cond.fieldLink "ShipSets$Clock" (18 : Nat) "ShipSets$Clock" "count" "I"), (Jvm.Cond.laysFinal "ShipSets$Clock" "ShipSets$Clock" "seconds" "[J"), (Jvm.Cond.laysFinal "ShipSets$Clock" "ShipSets$Clock" "reals" "[J"), (Jvm.Cond.lays "ShipSets$Clock" "ShipSets$Clock" "count" "I"), (Jvm.Cond.fieldLink "ShipSets$Teller" (12 : Nat) "ShipSets$Teller" "told" "Ljava/util/ArrayList;"), (Jvm.Cond.fieldLink "ShipSets$Teller" (21 : Nat) "ShipSets$Teller" "blocks" "LShipSets$Blocks;"), (Jvm.Cond.fieldLink "ShipSets$Teller" (28 : Nat) "ShipSets$Teller" "clock" "LShipSets$Clock;"), (Jvm.Cond.fieldLink "ShipSets$Teller" (32 : Nat) "ShipSets$Teller" "closed" "Z"), (Jvm.Cond.laysFinal "ShipSets$Teller" "ShipSets$Teller" "told" "Ljava/util/ArrayList;"), (Jvm.Cond.laysFinal "ShipSets$Teller" "ShipSets$Teller" "blocks" "LShipSets$Blocks;"), (Jvm.Cond.laysFinal "ShipSets$Teller" "ShipSets$Teller" "clock" "LShipSets$Clock;"), (Jvm.Cond.lays "ShipSets$Teller" "ShipSets$Teller" "closed" "Z"), (Jvm.Cond.methodLink "ShipSets" (52 : Nat) ({ cls := "java/util/ArrayList", name := "add", desc := "(Ljava/lang/Object;)Z" } : Jvm.MethodName)), (Jvm.Cond.instanceMethod ({ cls := "java/util/ArrayList", name := "add", desc := "(Ljava/lang/Object;)Z" } : Jvm.MethodName)), (Jvm.Cond.selects "java/util/ArrayList" ({ cls := "java/util/ArrayList", name := "add", desc := "(Ljava/lang/Object;)Z" } : Jvm.MethodName) ({ cls := "java/util/ArrayList", name := "add", desc := "(Ljava/lang/Object;)Z" } : Jvm.MethodName)), (Jvm.Cond.code ({ cls := "java/util/ArrayList", name := "add", desc := "(Ljava/lang/Object;)Z" } : Jvm.MethodName) prog_19_method_25_code (2 : Nat) (Option.some Jvm.ClassFile.FieldType.boolean)), (Jvm.Cond.methodLink "java/util/ArrayList" (131 : Nat) ({ cls := "java/util/ArrayList", name := "add", desc := "(Ljava/lang/Object;[Ljava/lang/Object;I)V" } : Jvm.MethodName)), (Jvm.Cond.instanceMethod ({ cls := "java/util/ArrayList", name := "add", desc := "(Ljava/lang/Object;[Ljava/lang/Object;I)V" } : Jvm.MethodName)), (Jvm.Cond.code ({ cls := "java/util/ArrayList", name := "add", desc := "(Ljava/lang/Object;[Ljava/lang/Object;I)V" } : Jvm.MethodName) prog_19_method_24_code (4 : Nat) (Option.none : Option Jvm.ClassFile.FieldType)), (Jvm.Cond.methodLink "java/util/ArrayList" (129 : Nat) ({ cls := "java/util/ArrayList", name := "grow", desc := "()[Ljava/lang/Object;" } : Jvm.MethodName)), (Jvm.Cond.instanceMethod ({ cls := "java/util/ArrayList", name := "grow", desc := "()[Ljava/lang/Object;" } : Jvm.MethodName)), (Jvm.Cond.code ({ cls := "java/util/ArrayList", name := "grow", desc := "()[Ljava/lang/Object;" } : Jvm.MethodName) prog_19_method_7_code (1 : Nat) (Option.some (Jvm.ClassFile.FieldType.array (Jvm.ClassFile.FieldType.object "java/lang/Object")))), (Jvm.Cond.methodLink "java/util/ArrayList" (69 : Nat) ({ cls := "java/util/ArrayList", name := "grow", desc := "(I)[Ljava/lang/Object;" } : Jvm.MethodName)), (Jvm.Cond.instanceMethod ({ cls := "java/util/ArrayList", name := "grow", desc := "(I)[Ljava/lang/Object;" } : Jvm.MethodName)), (Jvm.Cond.code ({ cls := "java/util/ArrayList", name := "grow", desc := "(I)[Ljava/lang/Object;" } : Jvm.MethodName) prog_19_method_6_code (4 : Nat) (Option.some (Jvm.ClassFile.FieldType.array (Jvm.ClassFile.FieldType.object "java/lang/Object")))), (Jvm.Cond.methodLink "java/util/ArrayList" (73 : Nat) ({ cls := "jdk/internal/util/ArraysSupport", name := "newLength", desc := "(III)I" } : Jvm.MethodName)), (Jvm.Cond.static ({ cls := "jdk/internal/util/ArraysSupport", name := "newLength", desc := "(III)I" } : Jvm.MethodName)), (Jvm.Cond.code ({ cls := "jdk/internal/util/ArraysSupport", name := "newLength", desc := "(III)I" } : Jvm.MethodName) prog_26_method_27_code (4 : Nat) (Option.some Jvm.ClassFile.FieldType.int)), (Jvm.Cond.methodLink "jdk/internal/util/ArraysSupport" (194 : Nat) ({ cls := "java/lang/Math", name := "max", desc := "(II)I" } : Jvm.MethodName)), (Jvm.Cond.static ({ cls := "java/lang/Math", name := "max", desc := "(II)I" } : Jvm.MethodName)), (Jvm.Cond.code ({ cls := "java/lang/Math", name := "max", desc := "(II)I" } : Jvm.MethodName) prog_15_method_65_code (2 : Nat) (Option.some Jvm.ClassFile.FieldType.int)), (Jvm.Cond.constant "jdk/internal/util/ArraysSupport" (200 : Nat) (2147483639 : Int32)), (Jvm.Cond.methodLink "jdk/internal/util/ArraysSupport" (201 : Nat) ({ cls := "jdk/internal/util/ArraysSupport", name := "hugeLength", desc := "(II)I" } : Jvm.MethodName)), (Jvm.Cond.static ({ cls := "jdk/internal/util/ArraysSupport", name := "hugeLength", desc := "(II)I" } : Jvm.MethodName)), (Jvm.Cond.code ({ cls := "jdk/internal/util/ArraysSupport", name := "hugeLength", desc := "(II)I" } : Jvm.MethodName) prog_26_method_28_code (3 : Nat) (Option.some Jvm.ClassFile.FieldType.int)), (Jvm.Cond.methodLink "java/util/ArrayList" (66 : Nat) ({ cls := "java/util/Arrays", name := "copyOf", desc := "([Ljava/lang/Object;I)[Ljava/lang/Object;" } : Jvm.MethodName)), (Jvm.Cond.static ({ cls := "java/util/Arrays", name := "copyOf", desc := "([Ljava/lang/Object;I)[Ljava/lang/Object;" } : Jvm.MethodName)), (Jvm.Cond.code ({ cls := "java/util/Arrays", name := "copyOf", desc := "([Ljava/lang/Object;I)[Ljava/lang/Object;" } : Jvm.MethodName) prog_20_method_119_code (2 : Nat) (Option.some (Jvm.ClassFile.FieldType.array (Jvm.ClassFile.FieldType.object "java/lang/Object")))), (Jvm.Cond.methodLink "java/util/Arrays" (86 : Nat) ({ cls := "java/lang/Object", name := "getClass", desc := "()Ljava/lang/Class;" } : Jvm.MethodName))]
def gT_1 : List Cond := [(Jvm.Cond.instanceMethod ({ cls := "java/lang/Object", name := "getClass", desc := "()Ljava/lang/Class;" } : Jvm.MethodName)), (Jvm.Cond.sameMethod "java/lang/Object" "java/lang/Object" "getClass" "()Ljava/lang/Class;"), (Jvm.Cond.selects "ShipSets" ({ cls := "java/lang/Object", name := "getClass", desc := "()Ljava/lang/Class;" } : Jvm.MethodName) ({ cls := "java/lang/Object", name := "getClass", desc := "()Ljava/lang/Class;" } : Jvm.MethodName)), (Jvm.Cond.selects "ShipSets$Blocks" ({ cls := "java/lang/Object", name := "getClass", desc := "()Ljava/lang/Class;" } : Jvm.MethodName) ({ cls := "java/lang/Object", name := "getClass", desc := "()Ljava/lang/Class;" } : Jvm.MethodName)), (Jvm.Cond.selects "ShipSets$Clock" ({ cls := "java/lang/Object", name := "getClass", desc := "()Ljava/lang/Class;" } : Jvm.MethodName) ({ cls := "java/lang/Object", name := "getClass", desc := "()Ljava/lang/Class;" } : Jvm.MethodName)), (Jvm.Cond.selects "ShipSets$Current" ({ cls := "java/lang/Object", name := "getClass", desc := "()Ljava/lang/Class;" } : Jvm.MethodName) ({ cls := "java/lang/Object", name := "getClass", desc := "()Ljava/lang/Class;" } : Jvm.MethodName)), (Jvm.Cond.selects "ShipSets$Holding" ({ cls := "java/lang/Object", name := "getClass", desc := "()Ljava/lang/Class;" } : Jvm.MethodName) ({ cls := "java/lang/Object", name := "getClass", desc := "()Ljava/lang/Class;" } : Jvm.MethodName)), (Jvm.Cond.selects "ShipSets$Settling" ({ cls := "java/lang/Object", name := "getClass", desc := "()Ljava/lang/Class;" } : Jvm.MethodName) ({ cls := "java/lang/Object", name := "getClass", desc := "()Ljava/lang/Class;" } : Jvm.MethodName)), (Jvm.Cond.selects "ShipSets$ShipSet" ({ cls := "java/lang/Object", name := "getClass", desc := "()Ljava/lang/Class;" } : Jvm.MethodName) ({ cls := "java/lang/Object", name := "getClass", desc := "()Ljava/lang/Class;" } : Jvm.MethodName)), (Jvm.Cond.selects "ShipSets$Teller" ({ cls := "java/lang/Object", name := "getClass", desc := "()Ljava/lang/Class;" } : Jvm.MethodName) ({ cls := "java/lang/Object", name := "getClass", desc := "()Ljava/lang/Class;" } : Jvm.MethodName)), (Jvm.Cond.selects "ShipSets$Telling" ({ cls := "java/lang/Object", name := "getClass", desc := "()Ljava/lang/Class;" } : Jvm.MethodName) ({ cls := "java/lang/Object", name := "getClass", desc := "()Ljava/lang/Class;" } : Jvm.MethodName)), (Jvm.Cond.selects "ShipSetsModel" ({ cls := "java/lang/Object", name := "getClass", desc := "()Ljava/lang/Class;" } : Jvm.MethodName) ({ cls := "java/lang/Object", name := "getClass", desc := "()Ljava/lang/Class;" } : Jvm.MethodName)), (Jvm.Cond.selects "java/util/ArrayList" ({ cls := "java/lang/Object", name := "getClass", desc := "()Ljava/lang/Class;" } : Jvm.MethodName) ({ cls := "java/lang/Object", name := "getClass", desc := "()Ljava/lang/Class;" } : Jvm.MethodName)), (Jvm.Cond.native ({ cls := "java/lang/Object", name := "getClass", desc := "()Ljava/lang/Class;" } : Jvm.MethodName)), (Jvm.Cond.methodLink "java/util/Arrays" (300 : Nat) ({ cls := "java/util/Arrays", name := "copyOf", desc := "([Ljava/lang/Object;ILjava/lang/Class;)[Ljava/lang/Object;" } : Jvm.MethodName)), (Jvm.Cond.static ({ cls := "java/util/Arrays", name := "copyOf", desc := "([Ljava/lang/Object;ILjava/lang/Class;)[Ljava/lang/Object;" } : Jvm.MethodName)), (Jvm.Cond.code ({ cls := "java/util/Arrays", name := "copyOf", desc := "([Ljava/lang/Object;ILjava/lang/Class;)[Ljava/lang/Object;" } : Jvm.MethodName) prog_20_method_120_code (4 : Nat) (Option.some (Jvm.ClassFile.FieldType.array (Jvm.ClassFile.FieldType.object "java/lang/Object")))), (Jvm.Cond.classLink "java/util/Arrays" (110 : Nat) "[Ljava/lang/Object;"), (Jvm.Cond.classLink "java/util/Arrays" (2 : Nat) "java/lang/Object"), (Jvm.Cond.methodLink "java/util/Arrays" (304 : Nat) ({ cls := "java/lang/Math", name := "min", desc := "(II)I" } : Jvm.MethodName)), (Jvm.Cond.static ({ cls := "java/lang/Math", name := "min", desc := "(II)I" } : Jvm.MethodName)), (Jvm.Cond.code ({ cls := "java/lang/Math", name := "min", desc := "(II)I" } : Jvm.MethodName) prog_15_method_69_code (2 : Nat) (Option.some Jvm.ClassFile.FieldType.int)), (Jvm.Cond.methodLink "java/util/Arrays" (150 : Nat) ({ cls := "java/lang/System", name := "arraycopy", desc := "(Ljava/lang/Object;ILjava/lang/Object;II)V" } : Jvm.MethodName)), (Jvm.Cond.static ({ cls := "java/lang/System", name := "arraycopy", desc := "(Ljava/lang/Object;ILjava/lang/Object;II)V" } : Jvm.MethodName)), (Jvm.Cond.native ({ cls := "java/lang/System", name := "arraycopy", desc := "(Ljava/lang/Object;ILjava/lang/Object;II)V" } : Jvm.MethodName)), (Jvm.Cond.methodLink "java/util/ArrayList" (79 : Nat) ({ cls := "java/lang/Math", name := "max", desc := "(II)I" } : Jvm.MethodName)), (Jvm.Cond.classLink "java/util/ArrayList" (7 : Nat) "java/lang/Object"), (Jvm.Cond.methodLink "ShipSetsLaw" (20 : Nat) ({ cls := "ShipSets", name := "tell", desc := "(IIIIJI)I" } : Jvm.MethodName)), (Jvm.Cond.instanceMethod ({ cls := "ShipSets", name := "tell", desc := "(IIIIJI)I" } : Jvm.MethodName)), (Jvm.Cond.selects "ShipSets" ({ cls := "ShipSets", name := "tell", desc := "(IIIIJI)I" } : Jvm.MethodName) ({ cls := "ShipSets", name := "tell", desc := "(IIIIJI)I" } : Jvm.MethodName)), (Jvm.Cond.code ({ cls := "ShipSets", name := "tell", desc := "(IIIIJI)I" } : Jvm.MethodName) prog_1_method_3_code (12 : Nat) (Option.some Jvm.ClassFile.FieldType.int)), (Jvm.Cond.methodLink "ShipSets" (56 : Nat) ({ cls := "ShipSets", name := "tellerAt", desc := "(I)LShipSets$Teller;" } : Jvm.MethodName)), (Jvm.Cond.instanceMethod ({ cls := "ShipSets", name := "tellerAt", desc := "(I)LShipSets$Teller;" } : Jvm.MethodName)), (Jvm.Cond.code ({ cls := "ShipSets", name := "tellerAt", desc := "(I)LShipSets$Teller;" } : Jvm.MethodName) prog_1_method_27_code (2 : Nat) (Option.some (Jvm.ClassFile.FieldType.object "ShipSets$Teller"))), (Jvm.Cond.methodLink "ShipSets" (208 : Nat) ({ cls := "java/util/ArrayList", name := "get", desc := "(I)Ljava/lang/Object;" } : Jvm.MethodName)), (Jvm.Cond.instanceMethod ({ cls := "java/util/ArrayList", name := "get", desc := "(I)Ljava/lang/Object;" } : Jvm.MethodName)), (Jvm.Cond.selects "java/util/ArrayList" ({ cls := "java/util/ArrayList", name := "get", desc := "(I)Ljava/lang/Object;" } : Jvm.MethodName) ({ cls := "java/util/ArrayList", name := "get", desc := "(I)Ljava/lang/Object;" } : Jvm.MethodName)), (Jvm.Cond.code ({ cls := "java/util/ArrayList", name := "get", desc := "(I)Ljava/lang/Object;" } : Jvm.MethodName) prog_19_method_20_code (2 : Nat) (Option.some (Jvm.ClassFile.FieldType.object "java/lang/Object"))), (Jvm.Cond.methodLink "java/util/ArrayList" (118 : Nat) ({ cls := "java/util/Objects", name := "checkIndex", desc := "(II)I" } : Jvm.MethodName)), (Jvm.Cond.static ({ cls := "java/util/Objects", name := "checkIndex", desc := "(II)I" } : Jvm.MethodName)), (Jvm.Cond.code ({ cls := "java/util/Objects", name := "checkIndex", desc := "(II)I" } : Jvm.MethodName) prog_23_method_17_code (2 : Nat) (Option.some Jvm.ClassFile.FieldType.int)), (Jvm.Cond.methodLink "java/util/Objects" (105 : Nat) ({ cls := "jdk/internal/util/Preconditions", name := "checkIndex", desc := "(IILjava/util/function/BiFunction;)I" } : Jvm.MethodName)), (Jvm.Cond.static ({ cls := "jdk/internal/util/Preconditions", name := "checkIndex", desc := "(IILjava/util/function/BiFunction;)I" } : Jvm.MethodName)), (Jvm.Cond.code ({ cls := "jdk/internal/util/Preconditions", name := "checkIndex", desc := "(IILjava/util/function/BiFunction;)I" } : Jvm.MethodName) prog_27_method_11_code (3 : Nat) (Option.some Jvm.ClassFile.FieldType.int)), (Jvm.Cond.methodLink "java/util/ArrayList" (123 : Nat) ({ cls := "java/util/ArrayList", name := "elementData", desc := "(I)Ljava/lang/Object;" } : Jvm.MethodName)), (Jvm.Cond.instanceMethod ({ cls := "java/util/ArrayList", name := "elementData", desc := "(I)Ljava/lang/Object;" } : Jvm.MethodName)), (Jvm.Cond.selects "java/util/ArrayList" ({ cls := "java/util/ArrayList", name := "elementData", desc := "(I)Ljava/lang/Object;" } : Jvm.MethodName) ({ cls := "java/util/ArrayList", name := "elementData", desc := "(I)Ljava/lang/Object;" } : Jvm.MethodName)), (Jvm.Cond.code ({ cls := "java/util/ArrayList", name := "elementData", desc := "(I)Ljava/lang/Object;" } : Jvm.MethodName) prog_19_method_18_code (2 : Nat) (Option.some (Jvm.ClassFile.FieldType.object "java/lang/Object"))), (Jvm.Cond.methodLink "ShipSets" (60 : Nat) ({ cls := "ShipSets", name := "cellOf", desc := "(II)I" } : Jvm.MethodName)), (Jvm.Cond.static ({ cls := "ShipSets", name := "cellOf", desc := "(II)I" } : Jvm.MethodName)), (Jvm.Cond.code ({ cls := "ShipSets", name := "cellOf", desc := "(II)I" } : Jvm.MethodName) prog_1_method_26_code (2 : Nat) (Option.some Jvm.ClassFile.FieldType.int)), (Jvm.Cond.methodLink "ShipSets" (168 : Nat) ({ cls := "ShipSets", name := "isKind", desc := "(I)Z" } : Jvm.MethodName)), (Jvm.Cond.static ({ cls := "ShipSets", name := "isKind", desc := "(I)Z" } : Jvm.MethodName)), (Jvm.Cond.code ({ cls := "ShipSets", name := "isKind", desc := "(I)Z" } : Jvm.MethodName) prog_1_method_21_code (1 : Nat) (Option.some Jvm.ClassFile.FieldType.boolean)), (Jvm.Cond.methodLink "ShipSets" (64 : Nat) ({ cls := "ShipSets", name := "isNumber", desc := "(I)Z" } : Jvm.MethodName)), (Jvm.Cond.static ({ cls := "ShipSets", name := "isNumber", desc := "(I)Z" } : Jvm.MethodName)), (Jvm.Cond.code ({ cls := "ShipSets", name := "isNumber", desc := "(I)Z" } : Jvm.MethodName) prog_1_method_20_code (1 : Nat) (Option.some Jvm.ClassFile.FieldType.boolean)), (Jvm.Cond.methodLink "ShipSets" (68 : Nat) ({ cls := "ShipSets", name := "isValue", desc := "(J)Z" } : Jvm.MethodName)), (Jvm.Cond.static ({ cls := "ShipSets", name := "isValue", desc := "(J)Z" } : Jvm.MethodName)), (Jvm.Cond.code ({ cls := "ShipSets", name := "isValue", desc := "(J)Z" } : Jvm.MethodName) prog_1_method_22_code (2 : Nat) (Option.some Jvm.ClassFile.FieldType.boolean)), (Jvm.Cond.constantLong "ShipSets" (204 : Nat) (-1000000000 : Int64)), (Jvm.Cond.constantLong "ShipSets" (206 : Nat) (1000000000 : Int64)), (Jvm.Cond.methodLink "ShipSets" (72 : Nat) ({ cls := "ShipSets", name := "isDay", desc := "(I)Z" } : Jvm.MethodName)), (Jvm.Cond.static ({ cls := "ShipSets", name := "isDay", desc := "(I)Z" } : Jvm.MethodName)), (Jvm.Cond.code ({ cls := "ShipSets", name := "isDay", desc := "(I)Z" } : Jvm.MethodName) prog_1_method_23_code (1 : Nat) (Option.some Jvm.ClassFile.FieldType.boolean)), (Jvm.Cond.constant "ShipSets" (136 : Nat) (100000 : Int32)), (Jvm.Cond.methodLink "ShipSets" (75 : Nat) ({ cls := "ShipSets$Teller", name := "toldWith", desc := "(I)LShipSets$Telling;" } : Jvm.MethodName)), (Jvm.Cond.instanceMethod ({ cls := "ShipSets$Teller", name := "toldWith", desc := "(I)LShipSets$Telling;" } : Jvm.MethodName)), (Jvm.Cond.selects "ShipSets$Teller" ({ cls := "ShipSets$Teller", name := "toldWith", desc := "(I)LShipSets$Telling;" } : Jvm.MethodName) ({ cls := "ShipSets$Teller", name := "toldWith", desc := "(I)LShipSets$Telling;" } : Jvm.MethodName)), (Jvm.Cond.code ({ cls := "ShipSets$Teller", name := "toldWith", desc := "(I)LShipSets$Telling;" } : Jvm.MethodName) prog_8_method_3_code (4 : Nat) (Option.some (Jvm.ClassFile.FieldType.object "ShipSets$Telling"))), (Jvm.Cond.methodLink "ShipSets$Teller" (50 : Nat) ({ cls := "ShipSets$Teller", name := "placeOf", desc := "(I)I" } : Jvm.MethodName)), (Jvm.Cond.instanceMethod ({ cls := "ShipSets$Teller", name := "placeOf", desc := "(I)I" } : Jvm.MethodName)), (Jvm.Cond.code ({ cls := "ShipSets$Teller", name := "placeOf", desc := "(I)I" } : Jvm.MethodName) prog_8_method_2_code (5 : Nat) (Option.some Jvm.ClassFile.FieldType.int)), (Jvm.Cond.methodLink "ShipSets$Teller" (36 : Nat) ({ cls := "java/util/ArrayList", name := "size", desc := "()I" } : Jvm.MethodName)), (Jvm.Cond.methodLink "ShipSets$Teller" (40 : Nat) ({ cls := "java/util/ArrayList", name := "get", desc := "(I)Ljava/lang/Object;" } : Jvm.MethodName)), (Jvm.Cond.classLink "ShipSets$Teller" (44 : Nat) "ShipSets$Telling"), (Jvm.Cond.methodLink "ShipSets" (79 : Nat) ({ cls := "ShipSets$Telling", name := "says", desc := "(IJI)Z" } : Jvm.MethodName)), (Jvm.Cond.instanceMethod ({ cls := "ShipSets$Telling", name := "says", desc := "(IJI)Z" } : Jvm.MethodName)), (Jvm.Cond.selects "ShipSets$Telling" ({ cls := "ShipSets$Telling", name := "says", desc := "(IJI)Z" } : Jvm.MethodName) ({ cls := "ShipSets$Telling", name := "says", desc := "(IJI)Z" } : Jvm.MethodName)), (Jvm.Cond.code ({ cls := "ShipSets$Telling", name := "says", desc := "(IJI)Z" } : Jvm.MethodName) prog_9_method_2_code (5 : Nat) (Option.some Jvm.ClassFile.FieldType.boolean)), (Jvm.Cond.instantiable "ShipSets$Telling" (7 : Nat)), (Jvm.Cond.methodLink "ShipSets" (90 : Nat) ({ cls := "ShipSets$Telling", name := "<init>", desc := "(IIIIJILShipSets$Telling;)V" } : Jvm.MethodName)), (Jvm.Cond.instanceMethod ({ cls := "ShipSets$Telling", name := "<init>", desc := "(IIIIJILShipSets$Telling;)V" } : Jvm.MethodName)), (Jvm.Cond.code ({ cls := "ShipSets$Telling", name := "<init>", desc := "(IIIIJILShipSets$Telling;)V" } : Jvm.MethodName) prog_9_method_1_code (9 : Nat) (Option.none : Option Jvm.ClassFile.FieldType)), (Jvm.Cond.methodLink "ShipSets$Telling" (1 : Nat) ({ cls := "java/lang/Object", name := "<init>", desc := "()V" } : Jvm.MethodName)), (Jvm.Cond.fieldLink "ShipSets$Telling" (7 : Nat) "ShipSets$Telling" "teller" "I"), (Jvm.Cond.fieldLink "ShipSets$Telling" (13 : Nat) "ShipSets$Telling" "order" "I"), (Jvm.Cond.fieldLink "ShipSets$Telling" (16 : Nat) "ShipSets$Telling" "number" "I"), (Jvm.Cond.fieldLink "ShipSets$Telling" (19 : Nat) "ShipSets$Telling" "cell" "I"), (Jvm.Cond.fieldLink "ShipSets$Telling" (22 : Nat) "ShipSets$Telling" "value" "J"), (Jvm.Cond.fieldLink "ShipSets$Telling" (26 : Nat) "ShipSets$Telling" "on" "I"), (Jvm.Cond.fieldLink "ShipSets$Telling" (29 : Nat) "ShipSets$Telling" "earlier" "LShipSets$Telling;"), (Jvm.Cond.laysFinal "ShipSets$Telling" "ShipSets$Telling" "teller" "I"), (Jvm.Cond.laysFinal "ShipSets$Telling" "ShipSets$Telling" "order" "I"), (Jvm.Cond.laysFinal "ShipSets$Telling" "ShipSets$Telling" "number" "I"), (Jvm.Cond.laysFinal "ShipSets$Telling" "ShipSets$Telling" "cell" "I"), (Jvm.Cond.laysFinal "ShipSets$Telling" "ShipSets$Telling" "value" "J"), (Jvm.Cond.laysFinal "ShipSets$Telling" "ShipSets$Telling" "on" "I"), (Jvm.Cond.laysFinal "ShipSets$Telling" "ShipSets$Telling" "earlier" "LShipSets$Telling;"), (Jvm.Cond.methodLink "ShipSets" (93 : Nat) ({ cls := "ShipSets$Teller", name := "keep", desc := "(LShipSets$Telling;)V" } : Jvm.MethodName)), (Jvm.Cond.instanceMethod ({ cls := "ShipSets$Teller", name := "keep", desc := "(LShipSets$Telling;)V" } : Jvm.MethodName)), (Jvm.Cond.selects "ShipSets$Teller" ({ cls := "ShipSets$Teller", name := "keep", desc := "(LShipSets$Telling;)V" } : Jvm.MethodName) ({ cls := "ShipSets$Teller", name := "keep", desc := "(LShipSets$Telling;)V" } : Jvm.MethodName)), (Jvm.Cond.code ({ cls := "ShipSets$Teller", name := "keep", desc := "(LShipSets$Telling;)V" } : Jvm.MethodName) prog_8_method_4_code (2 : Nat) (Option.none : Option Jvm.ClassFile.FieldType)), (Jvm.Cond.methodLink "ShipSets$Teller" (54 : Nat) ({ cls := "java/util/ArrayList", name := "add", desc := "(ILjava/lang/Object;)V" } : Jvm.MethodName)), (Jvm.Cond.instanceMethod ({ cls := "java/util/ArrayList", name := "add", desc := "(ILjava/lang/Object;)V" } : Jvm.MethodName)), (Jvm.Cond.selects "java/util/ArrayList" ({ cls := "java/util/ArrayList", name := "add", desc := "(ILjava/lang/Object;)V" } : Jvm.MethodName) ({ cls := "java/util/ArrayList", name := "add", desc := "(ILjava/lang/Object;)V" } : Jvm.MethodName)), (Jvm.Cond.code ({ cls := "java/util/ArrayList", name := "add", desc := "(ILjava/lang/Object;)V" } : Jvm.MethodName) prog_19_method_26_code (5 : Nat) (Option.none : Option Jvm.ClassFile.FieldType)), (Jvm.Cond.methodLink "java/util/ArrayList" (135 : Nat) ({ cls := "java/util/ArrayList", name := "rangeCheckForAdd", desc := "(I)V" } : Jvm.MethodName)), (Jvm.Cond.instanceMethod ({ cls := "java/util/ArrayList", name := "rangeCheckForAdd", desc := "(I)V" } : Jvm.MethodName)), (Jvm.Cond.code ({ cls := "java/util/ArrayList", name := "rangeCheckForAdd", desc := "(I)V" } : Jvm.MethodName) prog_19_method_45_code (2 : Nat) (Option.none : Option Jvm.ClassFile.FieldType)), (Jvm.Cond.methodLink "java/util/ArrayList" (112 : Nat) ({ cls := "java/lang/System", name := "arraycopy", desc := "(Ljava/lang/Object;ILjava/lang/Object;II)V" } : Jvm.MethodName)), (Jvm.Cond.methodLink "ShipSetsLaw" (25 : Nat) ({ cls := "ShipSets", name := "set", desc := "(I)I" } : Jvm.MethodName)), (Jvm.Cond.instanceMethod ({ cls := "ShipSets", name := "set", desc := "(I)I" } : Jvm.MethodName)), (Jvm.Cond.selects "ShipSets" ({ cls := "ShipSets", name := "set", desc := "(I)I" } : Jvm.MethodName) ({ cls := "ShipSets", name := "set", desc := "(I)I" } : Jvm.MethodName)), (Jvm.Cond.code ({ cls := "ShipSets", name := "set", desc := "(I)I" } : Jvm.MethodName) prog_1_method_4_code (4 : Nat) (Option.some Jvm.ClassFile.FieldType.int)), (Jvm.Cond.classLink "ShipSets" (97 : Nat) "ShipSets$ShipSet"), (Jvm.Cond.instantiable "ShipSets$ShipSet" (3 : Nat)), (Jvm.Cond.instanceMethod ({ cls := "ShipSets$ShipSet", name := "<init>", desc := "()V" } : Jvm.MethodName)), (Jvm.Cond.code ({ cls := "ShipSets$ShipSet", name := "<init>", desc := "()V" } : Jvm.MethodName) prog_7_method_1_code (1 : Nat) (Option.none : Option Jvm.ClassFile.FieldType)), (Jvm.Cond.methodLink "ShipSets$ShipSet" (1 : Nat) ({ cls := "java/lang/Object", name := "<init>", desc := "()V" } : Jvm.MethodName)), (Jvm.Cond.classLink "ShipSets$ShipSet" (7 : Nat) "ShipSets$Holding"), (Jvm.Cond.instantiable "ShipSets$Holding" (2 : Nat)), (Jvm.Cond.instanceMethod ({ cls := "ShipSets$Holding", name := "<init>", desc := "()V" } : Jvm.MethodName)), (Jvm.Cond.code ({ cls := "ShipSets$Holding", name := "<init>", desc := "()V" } : Jvm.MethodName) prog_5_method_1_code (1 : Nat) (Option.none : Option Jvm.ClassFile.FieldType)), (Jvm.Cond.methodLink "ShipSets$Holding" (3 : Nat) ({ cls := "java/lang/Object", name := "<init>", desc := "()V" } : Jvm.MethodName)), (Jvm.Cond.fieldLink "ShipSets$Holding" (9 : Nat) "ShipSets$Holding" "toldBy" "[I"), (Jvm.Cond.fieldLink "ShipSets$Holding" (15 : Nat) "ShipSets$Holding" "settlingBits" "J"), (Jvm.Cond.laysFinal "ShipSets$Holding" "ShipSets$Holding" "toldBy" "[I"), (Jvm.Cond.lays "ShipSets$Holding" "ShipSets$Holding" "settlingBits" "J"), (Jvm.Cond.fieldLink "ShipSets$ShipSet" (10 : Nat) "ShipSets$ShipSet" "now" "LShipSets$Holding;"), (Jvm.Cond.fieldLink "ShipSets$ShipSet" (16 : Nat) "ShipSets$ShipSet" "shown" "LShipSets$Holding;"), (Jvm.Cond.fieldLink "ShipSets$ShipSet" (19 : Nat) "ShipSets$ShipSet" "inBatch" "Z"), (Jvm.Cond.laysFinal "ShipSets$ShipSet" "ShipSets$ShipSet" "now" "LShipSets$Holding;"), (Jvm.Cond.laysFinal "ShipSets$ShipSet" "ShipSets$ShipSet" "shown" "LShipSets$Holding;"), (Jvm.Cond.lays "ShipSets$ShipSet" "ShipSets$ShipSet" "inBatch" "Z"), (Jvm.Cond.methodLink "ShipSetsLaw" (30 : Nat) ({ cls := "ShipSets", name := "join", desc := "(II)I" } : Jvm.MethodName)), (Jvm.Cond.instanceMethod ({ cls := "ShipSets", name := "join", desc := "(II)I" } : Jvm.MethodName)), (Jvm.Cond.selects "ShipSets" ({ cls := "ShipSets", name := "join", desc := "(II)I" } : Jvm.MethodName) ({ cls := "ShipSets", name := "join", desc := "(II)I" } : Jvm.MethodName)), (Jvm.Cond.code ({ cls := "ShipSets", name := "join", desc := "(II)I" } : Jvm.MethodName) prog_1_method_5_code (5 : Nat) (Option.some Jvm.ClassFile.FieldType.int)), (Jvm.Cond.methodLink "ShipSets" (110 : Nat) ({ cls := "ShipSets", name := "setAt", desc := "(I)LShipSets$ShipSet;" } : Jvm.MethodName)), (Jvm.Cond.instanceMethod ({ cls := "ShipSets", name := "setAt", desc := "(I)LShipSets$ShipSet;" } : Jvm.MethodName)), (Jvm.Cond.code ({ cls := "ShipSets", name := "setAt", desc := "(I)LShipSets$ShipSet;" } : Jvm.MethodName) prog_1_method_28_code (2 : Nat) (Option.some (Jvm.ClassFile.FieldType.object "ShipSets$ShipSet"))), (Jvm.Cond.methodLink "ShipSets" (114 : Nat) ({ cls := "ShipSets$Holding", name := "takeAllOf", desc := "(LShipSets$Holding;)V" } : Jvm.MethodName)), (Jvm.Cond.instanceMethod ({ cls := "ShipSets$Holding", name := "takeAllOf", desc := "(LShipSets$Holding;)V" } : Jvm.MethodName)), (Jvm.Cond.selects "ShipSets$Holding" ({ cls := "ShipSets$Holding", name := "takeAllOf", desc := "(LShipSets$Holding;)V" } : Jvm.MethodName) ({ cls := "ShipSets$Holding", name := "takeAllOf", desc := "(LShipSets$Holding;)V" } : Jvm.MethodName)), (Jvm.Cond.code ({ cls := "ShipSets$Holding", name := "takeAllOf", desc := "(LShipSets$Holding;)V" } : Jvm.MethodName) prog_5_method_5_code (3 : Nat) (Option.none : Option Jvm.ClassFile.FieldType)), (Jvm.Cond.methodLink "ShipSets$Holding" (28 : Nat) ({ cls := "java/lang/Math", name := "max", desc := "(II)I" } : Jvm.MethodName)), (Jvm.Cond.methodLink "ShipSets" (118 : Nat) ({ cls := "ShipSets", name := "countConflicts", desc := "(LShipSets$Holding;)I" } : Jvm.MethodName)), (Jvm.Cond.instanceMethod ({ cls := "ShipSets", name := "countConflicts", desc := "(LShipSets$Holding;)I" } : Jvm.MethodName)), (Jvm.Cond.code ({ cls := "ShipSets", name := "countConflicts", desc := "(LShipSets$Holding;)I" } : Jvm.MethodName) prog_1_method_33_code (4 : Nat) (Option.some Jvm.ClassFile.FieldType.int))]
def gT_2 : List Cond := [(Jvm.Cond.methodLink "ShipSets" (250 : Nat) ({ cls := "ShipSets", name := "isInConflict", desc := "(LShipSets$Holding;I)Z" } : Jvm.MethodName)), (Jvm.Cond.instanceMethod ({ cls := "ShipSets", name := "isInConflict", desc := "(LShipSets$Holding;I)Z" } : Jvm.MethodName)), (Jvm.Cond.code ({ cls := "ShipSets", name := "isInConflict", desc := "(LShipSets$Holding;I)Z" } : Jvm.MethodName) prog_1_method_32_code (5 : Nat) (Option.some Jvm.ClassFile.FieldType.boolean)), (Jvm.Cond.methodLink "ShipSets" (128 : Nat) ({ cls := "ShipSets", name := "valueOn", desc := "(LShipSets$Holding;II)J" } : Jvm.MethodName)), (Jvm.Cond.instanceMethod ({ cls := "ShipSets", name := "valueOn", desc := "(LShipSets$Holding;II)J" } : Jvm.MethodName)), (Jvm.Cond.code ({ cls := "ShipSets", name := "valueOn", desc := "(LShipSets$Holding;II)J" } : Jvm.MethodName) prog_1_method_30_code (6 : Nat) (Option.some Jvm.ClassFile.FieldType.long)), (Jvm.Cond.methodLink "ShipSets" (137 : Nat) ({ cls := "ShipSets", name := "findCurrent", desc := "(LShipSets$Holding;II)V" } : Jvm.MethodName)), (Jvm.Cond.instanceMethod ({ cls := "ShipSets", name := "findCurrent", desc := "(LShipSets$Holding;II)V" } : Jvm.MethodName)), (Jvm.Cond.code ({ cls := "ShipSets", name := "findCurrent", desc := "(LShipSets$Holding;II)V" } : Jvm.MethodName) prog_1_method_29_code (5 : Nat) (Option.none : Option Jvm.ClassFile.FieldType)), (Jvm.Cond.methodLink "ShipSets" (212 : Nat) ({ cls := "ShipSets$Current", name := "clear", desc := "()V" } : Jvm.MethodName)), (Jvm.Cond.instanceMethod ({ cls := "ShipSets$Current", name := "clear", desc := "()V" } : Jvm.MethodName)), (Jvm.Cond.selects "ShipSets$Current" ({ cls := "ShipSets$Current", name := "clear", desc := "()V" } : Jvm.MethodName) ({ cls := "ShipSets$Current", name := "clear", desc := "()V" } : Jvm.MethodName)), (Jvm.Cond.code ({ cls := "ShipSets$Current", name := "clear", desc := "()V" } : Jvm.MethodName) prog_4_method_2_code (1 : Nat) (Option.none : Option Jvm.ClassFile.FieldType)), (Jvm.Cond.methodLink "ShipSets$Current" (19 : Nat) ({ cls := "java/util/Arrays", name := "fill", desc := "([II)V" } : Jvm.MethodName)), (Jvm.Cond.static ({ cls := "java/util/Arrays", name := "fill", desc := "([II)V" } : Jvm.MethodName)), (Jvm.Cond.code ({ cls := "java/util/Arrays", name := "fill", desc := "([II)V" } : Jvm.MethodName) prog_20_method_103_code (4 : Nat) (Option.none : Option Jvm.ClassFile.FieldType)), (Jvm.Cond.methodLink "ShipSets" (218 : Nat) ({ cls := "ShipSets$Holding", name := "has", desc := "(LShipSets$Telling;)Z" } : Jvm.MethodName)), (Jvm.Cond.instanceMethod ({ cls := "ShipSets$Holding", name := "has", desc := "(LShipSets$Telling;)Z" } : Jvm.MethodName)), (Jvm.Cond.selects "ShipSets$Holding" ({ cls := "ShipSets$Holding", name := "has", desc := "(LShipSets$Telling;)Z" } : Jvm.MethodName) ({ cls := "ShipSets$Holding", name := "has", desc := "(LShipSets$Telling;)Z" } : Jvm.MethodName)), (Jvm.Cond.code ({ cls := "ShipSets$Holding", name := "has", desc := "(LShipSets$Telling;)Z" } : Jvm.MethodName) prog_5_method_2_code (2 : Nat) (Option.some Jvm.ClassFile.FieldType.boolean)), (Jvm.Cond.methodLink "ShipSets" (221 : Nat) ({ cls := "ShipSets$Current", name := "offer", desc := "(LShipSets$Telling;)V" } : Jvm.MethodName)), (Jvm.Cond.instanceMethod ({ cls := "ShipSets$Current", name := "offer", desc := "(LShipSets$Telling;)V" } : Jvm.MethodName)), (Jvm.Cond.selects "ShipSets$Current" ({ cls := "ShipSets$Current", name := "offer", desc := "(LShipSets$Telling;)V" } : Jvm.MethodName) ({ cls := "ShipSets$Current", name := "offer", desc := "(LShipSets$Telling;)V" } : Jvm.MethodName)), (Jvm.Cond.code ({ cls := "ShipSets$Current", name := "offer", desc := "(LShipSets$Telling;)V" } : Jvm.MethodName) prog_4_method_3_code (2 : Nat) (Option.none : Option Jvm.ClassFile.FieldType)), (Jvm.Cond.methodLink "ShipSets" (228 : Nat) ({ cls := "ShipSets$Current", name := "commonValue", desc := "()J" } : Jvm.MethodName)), (Jvm.Cond.instanceMethod ({ cls := "ShipSets$Current", name := "commonValue", desc := "()J" } : Jvm.MethodName)), (Jvm.Cond.selects "ShipSets$Current" ({ cls := "ShipSets$Current", name := "commonValue", desc := "()J" } : Jvm.MethodName) ({ cls := "ShipSets$Current", name := "commonValue", desc := "()J" } : Jvm.MethodName)), (Jvm.Cond.code ({ cls := "ShipSets$Current", name := "commonValue", desc := "()J" } : Jvm.MethodName) prog_4_method_7_code (4 : Nat) (Option.some Jvm.ClassFile.FieldType.long)), (Jvm.Cond.constantLong "ShipSets$Current" (42 : Nat) (-9223372036854775808 : Int64)), (Jvm.Cond.methodLink "ShipSets$Current" (38 : Nat) ({ cls := "ShipSets$Current", name := "has", desc := "(I)Z" } : Jvm.MethodName)), (Jvm.Cond.instanceMethod ({ cls := "ShipSets$Current", name := "has", desc := "(I)Z" } : Jvm.MethodName)), (Jvm.Cond.selects "ShipSets$Current" ({ cls := "ShipSets$Current", name := "has", desc := "(I)Z" } : Jvm.MethodName) ({ cls := "ShipSets$Current", name := "has", desc := "(I)Z" } : Jvm.MethodName)), (Jvm.Cond.code ({ cls := "ShipSets$Current", name := "has", desc := "(I)Z" } : Jvm.MethodName) prog_4_method_4_code (2 : Nat) (Option.some Jvm.ClassFile.FieldType.boolean)), (Jvm.Cond.constantLong "ShipSets" (126 : Nat) (-9223372036854775808 : Int64)), (Jvm.Cond.methodLink "ShipSets" (232 : Nat) ({ cls := "ShipSets", name := "settledValue", desc := "(LShipSets$Holding;I)J" } : Jvm.MethodName)), (Jvm.Cond.instanceMethod ({ cls := "ShipSets", name := "settledValue", desc := "(LShipSets$Holding;I)J" } : Jvm.MethodName)), (Jvm.Cond.code ({ cls := "ShipSets", name := "settledValue", desc := "(LShipSets$Holding;I)J" } : Jvm.MethodName) prog_1_method_31_code (5 : Nat) (Option.some Jvm.ClassFile.FieldType.long)), (Jvm.Cond.classLink "ShipSets" (151 : Nat) "ShipSets$Settling"), (Jvm.Cond.methodLink "ShipSets" (236 : Nat) ({ cls := "ShipSets$Holding", name := "hasSettling", desc := "(I)Z" } : Jvm.MethodName)), (Jvm.Cond.instanceMethod ({ cls := "ShipSets$Holding", name := "hasSettling", desc := "(I)Z" } : Jvm.MethodName)), (Jvm.Cond.selects "ShipSets$Holding" ({ cls := "ShipSets$Holding", name := "hasSettling", desc := "(I)Z" } : Jvm.MethodName) ({ cls := "ShipSets$Holding", name := "hasSettling", desc := "(I)Z" } : Jvm.MethodName)), (Jvm.Cond.code ({ cls := "ShipSets$Holding", name := "hasSettling", desc := "(I)Z" } : Jvm.MethodName) prog_5_method_3_code (2 : Nat) (Option.some Jvm.ClassFile.FieldType.boolean)), (Jvm.Cond.methodLink "ShipSets" (239 : Nat) ({ cls := "ShipSets$Settling", name := "isMadeFor", desc := "(ILShipSets$Current;)Z" } : Jvm.MethodName)), (Jvm.Cond.instanceMethod ({ cls := "ShipSets$Settling", name := "isMadeFor", desc := "(ILShipSets$Current;)Z" } : Jvm.MethodName)), (Jvm.Cond.selects "ShipSets$Settling" ({ cls := "ShipSets$Settling", name := "isMadeFor", desc := "(ILShipSets$Current;)Z" } : Jvm.MethodName) ({ cls := "ShipSets$Settling", name := "isMadeFor", desc := "(ILShipSets$Current;)Z" } : Jvm.MethodName)), (Jvm.Cond.code ({ cls := "ShipSets$Settling", name := "isMadeFor", desc := "(ILShipSets$Current;)Z" } : Jvm.MethodName) prog_6_method_2_code (4 : Nat) (Option.some Jvm.ClassFile.FieldType.boolean)), (Jvm.Cond.methodLink "ShipSets" (246 : Nat) ({ cls := "ShipSets$Current", name := "valueBy", desc := "(I)J" } : Jvm.MethodName)), (Jvm.Cond.instanceMethod ({ cls := "ShipSets$Current", name := "valueBy", desc := "(I)J" } : Jvm.MethodName)), (Jvm.Cond.selects "ShipSets$Current" ({ cls := "ShipSets$Current", name := "valueBy", desc := "(I)J" } : Jvm.MethodName) ({ cls := "ShipSets$Current", name := "valueBy", desc := "(I)J" } : Jvm.MethodName)), (Jvm.Cond.code ({ cls := "ShipSets$Current", name := "valueBy", desc := "(I)J" } : Jvm.MethodName) prog_4_method_5_code (2 : Nat) (Option.some Jvm.ClassFile.FieldType.long)), (Jvm.Cond.methodLink "ShipSets" (141 : Nat) ({ cls := "ShipSets$Current", name := "count", desc := "()I" } : Jvm.MethodName)), (Jvm.Cond.instanceMethod ({ cls := "ShipSets$Current", name := "count", desc := "()I" } : Jvm.MethodName)), (Jvm.Cond.selects "ShipSets$Current" ({ cls := "ShipSets$Current", name := "count", desc := "()I" } : Jvm.MethodName) ({ cls := "ShipSets$Current", name := "count", desc := "()I" } : Jvm.MethodName)), (Jvm.Cond.code ({ cls := "ShipSets$Current", name := "count", desc := "()I" } : Jvm.MethodName) prog_4_method_6_code (3 : Nat) (Option.some Jvm.ClassFile.FieldType.int)), (Jvm.Cond.methodLink "ShipSetsLaw" (35 : Nat) ({ cls := "ShipSets", name := "equal", desc := "(II)Z" } : Jvm.MethodName)), (Jvm.Cond.instanceMethod ({ cls := "ShipSets", name := "equal", desc := "(II)Z" } : Jvm.MethodName)), (Jvm.Cond.selects "ShipSets" ({ cls := "ShipSets", name := "equal", desc := "(II)Z" } : Jvm.MethodName) ({ cls := "ShipSets", name := "equal", desc := "(II)Z" } : Jvm.MethodName)), (Jvm.Cond.code ({ cls := "ShipSets", name := "equal", desc := "(II)Z" } : Jvm.MethodName) prog_1_method_6_code (5 : Nat) (Option.some Jvm.ClassFile.FieldType.boolean)), (Jvm.Cond.methodLink "ShipSets" (122 : Nat) ({ cls := "ShipSets$Holding", name := "isSameAs", desc := "(LShipSets$Holding;)Z" } : Jvm.MethodName)), (Jvm.Cond.instanceMethod ({ cls := "ShipSets$Holding", name := "isSameAs", desc := "(LShipSets$Holding;)Z" } : Jvm.MethodName)), (Jvm.Cond.selects "ShipSets$Holding" ({ cls := "ShipSets$Holding", name := "isSameAs", desc := "(LShipSets$Holding;)Z" } : Jvm.MethodName) ({ cls := "ShipSets$Holding", name := "isSameAs", desc := "(LShipSets$Holding;)Z" } : Jvm.MethodName)), (Jvm.Cond.code ({ cls := "ShipSets$Holding", name := "isSameAs", desc := "(LShipSets$Holding;)Z" } : Jvm.MethodName) prog_5_method_7_code (3 : Nat) (Option.some Jvm.ClassFile.FieldType.boolean)), (Jvm.Cond.methodLink "ShipSetsLaw" (40 : Nat) ({ cls := "ShipSets", name := "known", desc := "(IIII)J" } : Jvm.MethodName)), (Jvm.Cond.instanceMethod ({ cls := "ShipSets", name := "known", desc := "(IIII)J" } : Jvm.MethodName)), (Jvm.Cond.selects "ShipSets" ({ cls := "ShipSets", name := "known", desc := "(IIII)J" } : Jvm.MethodName) ({ cls := "ShipSets", name := "known", desc := "(IIII)J" } : Jvm.MethodName)), (Jvm.Cond.code ({ cls := "ShipSets", name := "known", desc := "(IIII)J" } : Jvm.MethodName) prog_1_method_7_code (7 : Nat) (Option.some Jvm.ClassFile.FieldType.long)), (Jvm.Cond.methodLink "ShipSetsLaw" (45 : Nat) ({ cls := "ShipSets", name := "conflict", desc := "(III)I" } : Jvm.MethodName)), (Jvm.Cond.instanceMethod ({ cls := "ShipSets", name := "conflict", desc := "(III)I" } : Jvm.MethodName)), (Jvm.Cond.selects "ShipSets" ({ cls := "ShipSets", name := "conflict", desc := "(III)I" } : Jvm.MethodName) ({ cls := "ShipSets", name := "conflict", desc := "(III)I" } : Jvm.MethodName)), (Jvm.Cond.code ({ cls := "ShipSets", name := "conflict", desc := "(III)I" } : Jvm.MethodName) prog_1_method_8_code (6 : Nat) (Option.some Jvm.ClassFile.FieldType.int)), (Jvm.Cond.methodLink "ShipSets" (132 : Nat) ({ cls := "ShipSets", name := "cellInConflict", desc := "(LShipSets$Holding;I)I" } : Jvm.MethodName)), (Jvm.Cond.instanceMethod ({ cls := "ShipSets", name := "cellInConflict", desc := "(LShipSets$Holding;I)I" } : Jvm.MethodName)), (Jvm.Cond.code ({ cls := "ShipSets", name := "cellInConflict", desc := "(LShipSets$Holding;I)I" } : Jvm.MethodName) prog_1_method_34_code (5 : Nat) (Option.some Jvm.ClassFile.FieldType.int)), (Jvm.Cond.methodLink "ShipSetsLaw" (50 : Nat) ({ cls := "ShipSets", name := "settle", desc := "(IIII)I" } : Jvm.MethodName)), (Jvm.Cond.instanceMethod ({ cls := "ShipSets", name := "settle", desc := "(IIII)I" } : Jvm.MethodName)), (Jvm.Cond.selects "ShipSets" ({ cls := "ShipSets", name := "settle", desc := "(IIII)I" } : Jvm.MethodName) ({ cls := "ShipSets", name := "settle", desc := "(IIII)I" } : Jvm.MethodName)), (Jvm.Cond.code ({ cls := "ShipSets", name := "settle", desc := "(IIII)I" } : Jvm.MethodName) prog_1_method_9_code (7 : Nat) (Option.some Jvm.ClassFile.FieldType.int)), (Jvm.Cond.methodLink "ShipSets" (144 : Nat) ({ cls := "ShipSets$Current", name := "has", desc := "(I)Z" } : Jvm.MethodName)), (Jvm.Cond.methodLink "ShipSets" (147 : Nat) ({ cls := "ShipSets$Holding", name := "takeSettling", desc := "(I)V" } : Jvm.MethodName)), (Jvm.Cond.instanceMethod ({ cls := "ShipSets$Holding", name := "takeSettling", desc := "(I)V" } : Jvm.MethodName)), (Jvm.Cond.selects "ShipSets$Holding" ({ cls := "ShipSets$Holding", name := "takeSettling", desc := "(I)V" } : Jvm.MethodName) ({ cls := "ShipSets$Holding", name := "takeSettling", desc := "(I)V" } : Jvm.MethodName)), (Jvm.Cond.code ({ cls := "ShipSets$Holding", name := "takeSettling", desc := "(I)V" } : Jvm.MethodName) prog_5_method_4_code (2 : Nat) (Option.none : Option Jvm.ClassFile.FieldType)), (Jvm.Cond.instantiable "ShipSets$Settling" (3 : Nat)), (Jvm.Cond.methodLink "ShipSets" (153 : Nat) ({ cls := "ShipSets$Settling", name := "<init>", desc := "(IILShipSets$Current;)V" } : Jvm.MethodName)), (Jvm.Cond.instanceMethod ({ cls := "ShipSets$Settling", name := "<init>", desc := "(IILShipSets$Current;)V" } : Jvm.MethodName)), (Jvm.Cond.code ({ cls := "ShipSets$Settling", name := "<init>", desc := "(IILShipSets$Current;)V" } : Jvm.MethodName) prog_6_method_1_code (4 : Nat) (Option.none : Option Jvm.ClassFile.FieldType)), (Jvm.Cond.methodLink "ShipSets$Settling" (3 : Nat) ({ cls := "java/lang/Object", name := "<init>", desc := "()V" } : Jvm.MethodName)), (Jvm.Cond.methodLink "ShipSets$Settling" (24 : Nat) ({ cls := "java/util/Arrays", name := "copyOf", desc := "([II)[I" } : Jvm.MethodName)), (Jvm.Cond.static ({ cls := "java/util/Arrays", name := "copyOf", desc := "([II)[I" } : Jvm.MethodName)), (Jvm.Cond.code ({ cls := "java/util/Arrays", name := "copyOf", desc := "([II)[I" } : Jvm.MethodName) prog_20_method_123_code (3 : Nat) (Option.some (Jvm.ClassFile.FieldType.array Jvm.ClassFile.FieldType.int))), (Jvm.Cond.methodLink "java/util/Arrays" (316 : Nat) ({ cls := "[I", name := "clone", desc := "()Ljava/lang/Object;" } : Jvm.MethodName)), (Jvm.Cond.sameMethod "[I" "java/lang/Object" "clone" "()Ljava/lang/Object;"), (Jvm.Cond.native ({ cls := "java/lang/Object", name := "clone", desc := "()Ljava/lang/Object;" } : Jvm.MethodName)), (Jvm.Cond.instanceMethod ({ cls := "java/lang/Object", name := "clone", desc := "()Ljava/lang/Object;" } : Jvm.MethodName)), (Jvm.Cond.selects "[I" ({ cls := "[I", name := "clone", desc := "()Ljava/lang/Object;" } : Jvm.MethodName) ({ cls := "java/lang/Object", name := "clone", desc := "()Ljava/lang/Object;" } : Jvm.MethodName)), (Jvm.Cond.classLink "java/util/Arrays" (317 : Nat) "[I"), (Jvm.Cond.fieldLink "ShipSets$Settling" (9 : Nat) "ShipSets$Settling" "cell" "I"), (Jvm.Cond.fieldLink "ShipSets$Settling" (15 : Nat) "ShipSets$Settling" "teller" "I"), (Jvm.Cond.fieldLink "ShipSets$Settling" (30 : Nat) "ShipSets$Settling" "numbers" "[I"), (Jvm.Cond.laysFinal "ShipSets$Settling" "ShipSets$Settling" "cell" "I"), (Jvm.Cond.laysFinal "ShipSets$Settling" "ShipSets$Settling" "teller" "I"), (Jvm.Cond.laysFinal "ShipSets$Settling" "ShipSets$Settling" "numbers" "[I"), (Jvm.Cond.methodLink "ShipSetsLaw" (55 : Nat) ({ cls := "ShipSets", name := "batch", desc := "(I)Z" } : Jvm.MethodName)), (Jvm.Cond.instanceMethod ({ cls := "ShipSets", name := "batch", desc := "(I)Z" } : Jvm.MethodName)), (Jvm.Cond.selects "ShipSets" ({ cls := "ShipSets", name := "batch", desc := "(I)Z" } : Jvm.MethodName) ({ cls := "ShipSets", name := "batch", desc := "(I)Z" } : Jvm.MethodName)), (Jvm.Cond.code ({ cls := "ShipSets", name := "batch", desc := "(I)Z" } : Jvm.MethodName) prog_1_method_10_code (3 : Nat) (Option.some Jvm.ClassFile.FieldType.boolean)), (Jvm.Cond.methodLink "ShipSets" (162 : Nat) ({ cls := "ShipSets$Holding", name := "becomeLike", desc := "(LShipSets$Holding;)V" } : Jvm.MethodName)), (Jvm.Cond.instanceMethod ({ cls := "ShipSets$Holding", name := "becomeLike", desc := "(LShipSets$Holding;)V" } : Jvm.MethodName)), (Jvm.Cond.selects "ShipSets$Holding" ({ cls := "ShipSets$Holding", name := "becomeLike", desc := "(LShipSets$Holding;)V" } : Jvm.MethodName) ({ cls := "ShipSets$Holding", name := "becomeLike", desc := "(LShipSets$Holding;)V" } : Jvm.MethodName)), (Jvm.Cond.code ({ cls := "ShipSets$Holding", name := "becomeLike", desc := "(LShipSets$Holding;)V" } : Jvm.MethodName) prog_5_method_6_code (2 : Nat) (Option.none : Option Jvm.ClassFile.FieldType)), (Jvm.Cond.methodLink "ShipSets$Holding" (34 : Nat) ({ cls := "java/lang/System", name := "arraycopy", desc := "(Ljava/lang/Object;ILjava/lang/Object;II)V" } : Jvm.MethodName)), (Jvm.Cond.methodLink "ShipSetsLaw" (60 : Nat) ({ cls := "ShipSets", name := "endBatch", desc := "(I)Z" } : Jvm.MethodName)), (Jvm.Cond.instanceMethod ({ cls := "ShipSets", name := "endBatch", desc := "(I)Z" } : Jvm.MethodName)), (Jvm.Cond.selects "ShipSets" ({ cls := "ShipSets", name := "endBatch", desc := "(I)Z" } : Jvm.MethodName) ({ cls := "ShipSets", name := "endBatch", desc := "(I)Z" } : Jvm.MethodName)), (Jvm.Cond.code ({ cls := "ShipSets", name := "endBatch", desc := "(I)Z" } : Jvm.MethodName) prog_1_method_11_code (3 : Nat) (Option.some Jvm.ClassFile.FieldType.boolean)), (Jvm.Cond.methodLink "ShipSetsLaw" (64 : Nat) ({ cls := "ShipSets", name := "right", desc := "(IIZ)Z" } : Jvm.MethodName)), (Jvm.Cond.instanceMethod ({ cls := "ShipSets", name := "right", desc := "(IIZ)Z" } : Jvm.MethodName)), (Jvm.Cond.selects "ShipSets" ({ cls := "ShipSets", name := "right", desc := "(IIZ)Z" } : Jvm.MethodName) ({ cls := "ShipSets", name := "right", desc := "(IIZ)Z" } : Jvm.MethodName)), (Jvm.Cond.code ({ cls := "ShipSets", name := "right", desc := "(IIZ)Z" } : Jvm.MethodName) prog_1_method_12_code (4 : Nat) (Option.some Jvm.ClassFile.FieldType.boolean)), (Jvm.Cond.methodLink "ShipSets" (165 : Nat) ({ cls := "ShipSets", name := "isPerson", desc := "(I)Z" } : Jvm.MethodName)), (Jvm.Cond.static ({ cls := "ShipSets", name := "isPerson", desc := "(I)Z" } : Jvm.MethodName)), (Jvm.Cond.code ({ cls := "ShipSets", name := "isPerson", desc := "(I)Z" } : Jvm.MethodName) prog_1_method_24_code (1 : Nat) (Option.some Jvm.ClassFile.FieldType.boolean)), (Jvm.Cond.methodLink "ShipSetsLaw" (69 : Nat) ({ cls := "ShipSets", name := "seen", desc := "(IIII)J" } : Jvm.MethodName)), (Jvm.Cond.instanceMethod ({ cls := "ShipSets", name := "seen", desc := "(IIII)J" } : Jvm.MethodName)), (Jvm.Cond.selects "ShipSets" ({ cls := "ShipSets", name := "seen", desc := "(IIII)J" } : Jvm.MethodName) ({ cls := "ShipSets", name := "seen", desc := "(IIII)J" } : Jvm.MethodName)), (Jvm.Cond.code ({ cls := "ShipSets", name := "seen", desc := "(IIII)J" } : Jvm.MethodName) prog_1_method_13_code (7 : Nat) (Option.some Jvm.ClassFile.FieldType.long)), (Jvm.Cond.methodLink "ShipSetsLaw" (73 : Nat) ({ cls := "ShipSets", name := "block", desc := "(III)Z" } : Jvm.MethodName)), (Jvm.Cond.instanceMethod ({ cls := "ShipSets", name := "block", desc := "(III)Z" } : Jvm.MethodName)), (Jvm.Cond.selects "ShipSets" ({ cls := "ShipSets", name := "block", desc := "(III)Z" } : Jvm.MethodName) ({ cls := "ShipSets", name := "block", desc := "(III)Z" } : Jvm.MethodName)), (Jvm.Cond.code ({ cls := "ShipSets", name := "block", desc := "(III)Z" } : Jvm.MethodName) prog_1_method_14_code (5 : Nat) (Option.some Jvm.ClassFile.FieldType.boolean)), (Jvm.Cond.methodLink "ShipSets" (175 : Nat) ({ cls := "ShipSets$Blocks", name := "add", desc := "(II)Z" } : Jvm.MethodName)), (Jvm.Cond.instanceMethod ({ cls := "ShipSets$Blocks", name := "add", desc := "(II)Z" } : Jvm.MethodName)), (Jvm.Cond.selects "ShipSets$Blocks" ({ cls := "ShipSets$Blocks", name := "add", desc := "(II)Z" } : Jvm.MethodName) ({ cls := "ShipSets$Blocks", name := "add", desc := "(II)Z" } : Jvm.MethodName)), (Jvm.Cond.code ({ cls := "ShipSets$Blocks", name := "add", desc := "(II)Z" } : Jvm.MethodName) prog_2_method_2_code (4 : Nat) (Option.some Jvm.ClassFile.FieldType.boolean)), (Jvm.Cond.methodLink "ShipSets$Blocks" (25 : Nat) ({ cls := "ShipSets$Blocks", name := "firstFrom", desc := "(I)I" } : Jvm.MethodName)), (Jvm.Cond.instanceMethod ({ cls := "ShipSets$Blocks", name := "firstFrom", desc := "(I)I" } : Jvm.MethodName)), (Jvm.Cond.selects "ShipSets$Blocks" ({ cls := "ShipSets$Blocks", name := "firstFrom", desc := "(I)I" } : Jvm.MethodName) ({ cls := "ShipSets$Blocks", name := "firstFrom", desc := "(I)I" } : Jvm.MethodName)), (Jvm.Cond.code ({ cls := "ShipSets$Blocks", name := "firstFrom", desc := "(I)I" } : Jvm.MethodName) prog_2_method_3_code (3 : Nat) (Option.some Jvm.ClassFile.FieldType.int)), (Jvm.Cond.methodLink "ShipSets$Blocks" (29 : Nat) ({ cls := "java/lang/Math", name := "max", desc := "(II)I" } : Jvm.MethodName)), (Jvm.Cond.methodLink "ShipSetsLaw" (78 : Nat) ({ cls := "ShipSets", name := "number", desc := "(I)I" } : Jvm.MethodName)), (Jvm.Cond.instanceMethod ({ cls := "ShipSets", name := "number", desc := "(I)I" } : Jvm.MethodName)), (Jvm.Cond.selects "ShipSets" ({ cls := "ShipSets", name := "number", desc := "(I)I" } : Jvm.MethodName) ({ cls := "ShipSets", name := "number", desc := "(I)I" } : Jvm.MethodName)), (Jvm.Cond.code ({ cls := "ShipSets", name := "number", desc := "(I)I" } : Jvm.MethodName) prog_1_method_15_code (3 : Nat) (Option.some Jvm.ClassFile.FieldType.int)), (Jvm.Cond.methodLink "ShipSets" (180 : Nat) ({ cls := "ShipSets$Teller", name := "giveNumber", desc := "()I" } : Jvm.MethodName)), (Jvm.Cond.instanceMethod ({ cls := "ShipSets$Teller", name := "giveNumber", desc := "()I" } : Jvm.MethodName)), (Jvm.Cond.selects "ShipSets$Teller" ({ cls := "ShipSets$Teller", name := "giveNumber", desc := "()I" } : Jvm.MethodName) ({ cls := "ShipSets$Teller", name := "giveNumber", desc := "()I" } : Jvm.MethodName)), (Jvm.Cond.code ({ cls := "ShipSets$Teller", name := "giveNumber", desc := "()I" } : Jvm.MethodName) prog_8_method_5_code (3 : Nat) (Option.some Jvm.ClassFile.FieldType.int)), (Jvm.Cond.methodLink "ShipSets$Teller" (68 : Nat) ({ cls := "ShipSets$Teller", name := "toldWith", desc := "(I)LShipSets$Telling;" } : Jvm.MethodName)), (Jvm.Cond.methodLink "ShipSetsLaw" (82 : Nat) ({ cls := "ShipSets", name := "lost", desc := "(III)I" } : Jvm.MethodName)), (Jvm.Cond.instanceMethod ({ cls := "ShipSets", name := "lost", desc := "(III)I" } : Jvm.MethodName))]
def gT_3 : List Cond := [(Jvm.Cond.selects "ShipSets" ({ cls := "ShipSets", name := "lost", desc := "(III)I" } : Jvm.MethodName) ({ cls := "ShipSets", name := "lost", desc := "(III)I" } : Jvm.MethodName)), (Jvm.Cond.code ({ cls := "ShipSets", name := "lost", desc := "(III)I" } : Jvm.MethodName) prog_1_method_16_code (5 : Nat) (Option.some Jvm.ClassFile.FieldType.int)), (Jvm.Cond.methodLink "ShipSets" (183 : Nat) ({ cls := "ShipSets$Teller", name := "endOfLostSpan", desc := "(II)I" } : Jvm.MethodName)), (Jvm.Cond.instanceMethod ({ cls := "ShipSets$Teller", name := "endOfLostSpan", desc := "(II)I" } : Jvm.MethodName)), (Jvm.Cond.selects "ShipSets$Teller" ({ cls := "ShipSets$Teller", name := "endOfLostSpan", desc := "(II)I" } : Jvm.MethodName) ({ cls := "ShipSets$Teller", name := "endOfLostSpan", desc := "(II)I" } : Jvm.MethodName)), (Jvm.Cond.code ({ cls := "ShipSets$Teller", name := "endOfLostSpan", desc := "(II)I" } : Jvm.MethodName) prog_8_method_6_code (7 : Nat) (Option.some Jvm.ClassFile.FieldType.int)), (Jvm.Cond.methodLink "ShipSets$Teller" (72 : Nat) ({ cls := "java/util/ArrayList", name := "isEmpty", desc := "()Z" } : Jvm.MethodName)), (Jvm.Cond.instanceMethod ({ cls := "java/util/ArrayList", name := "isEmpty", desc := "()Z" } : Jvm.MethodName)), (Jvm.Cond.selects "java/util/ArrayList" ({ cls := "java/util/ArrayList", name := "isEmpty", desc := "()Z" } : Jvm.MethodName) ({ cls := "java/util/ArrayList", name := "isEmpty", desc := "()Z" } : Jvm.MethodName)), (Jvm.Cond.code ({ cls := "java/util/ArrayList", name := "isEmpty", desc := "()Z" } : Jvm.MethodName) prog_19_method_9_code (1 : Nat) (Option.some Jvm.ClassFile.FieldType.boolean)), (Jvm.Cond.methodLink "ShipSets$Teller" (76 : Nat) ({ cls := "ShipSets$Teller", name := "lastLostFrom", desc := "(I)I" } : Jvm.MethodName)), (Jvm.Cond.instanceMethod ({ cls := "ShipSets$Teller", name := "lastLostFrom", desc := "(I)I" } : Jvm.MethodName)), (Jvm.Cond.code ({ cls := "ShipSets$Teller", name := "lastLostFrom", desc := "(I)I" } : Jvm.MethodName) prog_8_method_7_code (4 : Nat) (Option.some Jvm.ClassFile.FieldType.int)), (Jvm.Cond.methodLink "ShipSets$Teller" (88 : Nat) ({ cls := "ShipSets$Blocks", name := "firstFrom", desc := "(I)I" } : Jvm.MethodName)), (Jvm.Cond.methodLink "ShipSets$Teller" (91 : Nat) ({ cls := "java/lang/Math", name := "min", desc := "(II)I" } : Jvm.MethodName)), (Jvm.Cond.methodLink "ShipSets$Teller" (79 : Nat) ({ cls := "ShipSets$Blocks", name := "lastAround", desc := "(I)I" } : Jvm.MethodName)), (Jvm.Cond.instanceMethod ({ cls := "ShipSets$Blocks", name := "lastAround", desc := "(I)I" } : Jvm.MethodName)), (Jvm.Cond.selects "ShipSets$Blocks" ({ cls := "ShipSets$Blocks", name := "lastAround", desc := "(I)I" } : Jvm.MethodName) ({ cls := "ShipSets$Blocks", name := "lastAround", desc := "(I)I" } : Jvm.MethodName)), (Jvm.Cond.code ({ cls := "ShipSets$Blocks", name := "lastAround", desc := "(I)I" } : Jvm.MethodName) prog_2_method_4_code (3 : Nat) (Option.some Jvm.ClassFile.FieldType.int)), (Jvm.Cond.methodLink "ShipSets$Teller" (82 : Nat) ({ cls := "java/lang/Math", name := "max", desc := "(II)I" } : Jvm.MethodName)), (Jvm.Cond.methodLink "ShipSetsLaw" (86 : Nat) ({ cls := "ShipSets", name := "close", desc := "(I)Z" } : Jvm.MethodName)), (Jvm.Cond.instanceMethod ({ cls := "ShipSets", name := "close", desc := "(I)Z" } : Jvm.MethodName)), (Jvm.Cond.selects "ShipSets" ({ cls := "ShipSets", name := "close", desc := "(I)Z" } : Jvm.MethodName) ({ cls := "ShipSets", name := "close", desc := "(I)Z" } : Jvm.MethodName)), (Jvm.Cond.code ({ cls := "ShipSets", name := "close", desc := "(I)Z" } : Jvm.MethodName) prog_1_method_17_code (3 : Nat) (Option.some Jvm.ClassFile.FieldType.boolean)), (Jvm.Cond.methodLink "ShipSetsLaw" (90 : Nat) ({ cls := "ShipSets", name := "mark", desc := "(IJJ)Z" } : Jvm.MethodName)), (Jvm.Cond.instanceMethod ({ cls := "ShipSets", name := "mark", desc := "(IJJ)Z" } : Jvm.MethodName)), (Jvm.Cond.selects "ShipSets" ({ cls := "ShipSets", name := "mark", desc := "(IJJ)Z" } : Jvm.MethodName) ({ cls := "ShipSets", name := "mark", desc := "(IJJ)Z" } : Jvm.MethodName)), (Jvm.Cond.code ({ cls := "ShipSets", name := "mark", desc := "(IJJ)Z" } : Jvm.MethodName) prog_1_method_18_code (7 : Nat) (Option.some Jvm.ClassFile.FieldType.boolean)), (Jvm.Cond.methodLink "ShipSets" (186 : Nat) ({ cls := "ShipSets", name := "isSecond", desc := "(J)Z" } : Jvm.MethodName)), (Jvm.Cond.static ({ cls := "ShipSets", name := "isSecond", desc := "(J)Z" } : Jvm.MethodName)), (Jvm.Cond.code ({ cls := "ShipSets", name := "isSecond", desc := "(J)Z" } : Jvm.MethodName) prog_1_method_25_code (2 : Nat) (Option.some Jvm.ClassFile.FieldType.boolean)), (Jvm.Cond.methodLink "ShipSets" (193 : Nat) ({ cls := "ShipSets$Clock", name := "add", desc := "(JJ)Z" } : Jvm.MethodName)), (Jvm.Cond.instanceMethod ({ cls := "ShipSets$Clock", name := "add", desc := "(JJ)Z" } : Jvm.MethodName)), (Jvm.Cond.selects "ShipSets$Clock" ({ cls := "ShipSets$Clock", name := "add", desc := "(JJ)Z" } : Jvm.MethodName) ({ cls := "ShipSets$Clock", name := "add", desc := "(JJ)Z" } : Jvm.MethodName)), (Jvm.Cond.code ({ cls := "ShipSets$Clock", name := "add", desc := "(JJ)Z" } : Jvm.MethodName) prog_3_method_2_code (5 : Nat) (Option.some Jvm.ClassFile.FieldType.boolean)), (Jvm.Cond.methodLink "ShipSetsLaw" (95 : Nat) ({ cls := "ShipSets", name := "corrected", desc := "(IJI)J" } : Jvm.MethodName)), (Jvm.Cond.instanceMethod ({ cls := "ShipSets", name := "corrected", desc := "(IJI)J" } : Jvm.MethodName)), (Jvm.Cond.selects "ShipSets" ({ cls := "ShipSets", name := "corrected", desc := "(IJI)J" } : Jvm.MethodName) ({ cls := "ShipSets", name := "corrected", desc := "(IJI)J" } : Jvm.MethodName)), (Jvm.Cond.code ({ cls := "ShipSets", name := "corrected", desc := "(IJI)J" } : Jvm.MethodName) prog_1_method_19_code (6 : Nat) (Option.some Jvm.ClassFile.FieldType.long)), (Jvm.Cond.constantLong "ShipSets" (198 : Nat) (-1 : Int64)), (Jvm.Cond.methodLink "ShipSets" (200 : Nat) ({ cls := "ShipSets$Clock", name := "trueSecond", desc := "(JI)J" } : Jvm.MethodName)), (Jvm.Cond.instanceMethod ({ cls := "ShipSets$Clock", name := "trueSecond", desc := "(JI)J" } : Jvm.MethodName)), (Jvm.Cond.selects "ShipSets$Clock" ({ cls := "ShipSets$Clock", name := "trueSecond", desc := "(JI)J" } : Jvm.MethodName) ({ cls := "ShipSets$Clock", name := "trueSecond", desc := "(JI)J" } : Jvm.MethodName)), (Jvm.Cond.code ({ cls := "ShipSets$Clock", name := "trueSecond", desc := "(JI)J" } : Jvm.MethodName) prog_3_method_3_code (11 : Nat) (Option.some Jvm.ClassFile.FieldType.long)), (Jvm.Cond.methodLink "ShipSets$Clock" (22 : Nat) ({ cls := "ShipSets$Clock", name := "lineFor", desc := "(J)I" } : Jvm.MethodName)), (Jvm.Cond.instanceMethod ({ cls := "ShipSets$Clock", name := "lineFor", desc := "(J)I" } : Jvm.MethodName)), (Jvm.Cond.code ({ cls := "ShipSets$Clock", name := "lineFor", desc := "(J)I" } : Jvm.MethodName) prog_3_method_4_code (4 : Nat) (Option.some Jvm.ClassFile.FieldType.int)), (Jvm.Cond.methodLink "ShipSets$Clock" (26 : Nat) ({ cls := "ShipSets$Clock", name := "greatestDivisor", desc := "(JJ)J" } : Jvm.MethodName)), (Jvm.Cond.static ({ cls := "ShipSets$Clock", name := "greatestDivisor", desc := "(JJ)J" } : Jvm.MethodName)), (Jvm.Cond.code ({ cls := "ShipSets$Clock", name := "greatestDivisor", desc := "(JJ)J" } : Jvm.MethodName) prog_3_method_5_code (11 : Nat) (Option.some Jvm.ClassFile.FieldType.long)), (Jvm.Cond.methodLink "ShipSets$Clock" (30 : Nat) ({ cls := "java/lang/Math", name := "abs", desc := "(J)J" } : Jvm.MethodName)), (Jvm.Cond.static ({ cls := "java/lang/Math", name := "abs", desc := "(J)J" } : Jvm.MethodName)), (Jvm.Cond.code ({ cls := "java/lang/Math", name := "abs", desc := "(J)J" } : Jvm.MethodName) prog_15_method_61_code (2 : Nat) (Option.some Jvm.ClassFile.FieldType.long)), (Jvm.Cond.methodLink "ShipSets$Clock" (36 : Nat) ({ cls := "java/lang/Math", name := "max", desc := "(JJ)J" } : Jvm.MethodName)), (Jvm.Cond.static ({ cls := "java/lang/Math", name := "max", desc := "(JJ)J" } : Jvm.MethodName)), (Jvm.Cond.code ({ cls := "java/lang/Math", name := "max", desc := "(JJ)J" } : Jvm.MethodName) prog_15_method_66_code (4 : Nat) (Option.some Jvm.ClassFile.FieldType.long)), (Jvm.Cond.classLink "ShipSetsLaw" (10 : Nat) "ShipSetsModel"), (Jvm.Cond.instantiable "ShipSetsModel" (27 : Nat)), (Jvm.Cond.methodLink "ShipSetsLaw" (12 : Nat) ({ cls := "ShipSetsModel", name := "<init>", desc := "()V" } : Jvm.MethodName)), (Jvm.Cond.instanceMethod ({ cls := "ShipSetsModel", name := "<init>", desc := "()V" } : Jvm.MethodName)), (Jvm.Cond.code ({ cls := "ShipSetsModel", name := "<init>", desc := "()V" } : Jvm.MethodName) prog_11_method_1_code (1 : Nat) (Option.none : Option Jvm.ClassFile.FieldType)), (Jvm.Cond.methodLink "ShipSetsModel" (1 : Nat) ({ cls := "java/lang/Object", name := "<init>", desc := "()V" } : Jvm.MethodName)), (Jvm.Cond.constant "ShipSetsModel" (66 : Nat) (80000 : Int32)), (Jvm.Cond.fieldLink "ShipSetsModel" (82 : Nat) "ShipSetsModel" "tellers" "I"), (Jvm.Cond.fieldLink "ShipSetsModel" (7 : Nat) "ShipSetsModel" "closed" "[Z"), (Jvm.Cond.fieldLink "ShipSetsModel" (89 : Nat) "ShipSetsModel" "tellings" "I"), (Jvm.Cond.fieldLink "ShipSetsModel" (13 : Nat) "ShipSetsModel" "who" "[I"), (Jvm.Cond.fieldLink "ShipSetsModel" (17 : Nat) "ShipSetsModel" "number" "[I"), (Jvm.Cond.fieldLink "ShipSetsModel" (20 : Nat) "ShipSetsModel" "thing" "[I"), (Jvm.Cond.fieldLink "ShipSetsModel" (23 : Nat) "ShipSetsModel" "kind" "[I"), (Jvm.Cond.fieldLink "ShipSetsModel" (26 : Nat) "ShipSetsModel" "value" "[J"), (Jvm.Cond.fieldLink "ShipSetsModel" (30 : Nat) "ShipSetsModel" "from" "[I"), (Jvm.Cond.fieldLink "ShipSetsModel" (86 : Nat) "ShipSetsModel" "sets" "I"), (Jvm.Cond.fieldLink "ShipSetsModel" (33 : Nat) "ShipSetsModel" "holds" "[Z"), (Jvm.Cond.fieldLink "ShipSetsModel" (36 : Nat) "ShipSetsModel" "settled" "[Z"), (Jvm.Cond.fieldLink "ShipSetsModel" (39 : Nat) "ShipSetsModel" "inBatch" "[Z"), (Jvm.Cond.fieldLink "ShipSetsModel" (126 : Nat) "ShipSetsModel" "settlings" "I"), (Jvm.Cond.fieldLink "ShipSetsModel" (42 : Nat) "ShipSetsModel" "ofThing" "[I"), (Jvm.Cond.fieldLink "ShipSetsModel" (45 : Nat) "ShipSetsModel" "ofKind" "[I"), (Jvm.Cond.fieldLink "ShipSetsModel" (48 : Nat) "ShipSetsModel" "ofTeller" "[I"), (Jvm.Cond.fieldLink "ShipSetsModel" (51 : Nat) "ShipSetsModel" "kept" "[Z"), (Jvm.Cond.fieldLink "ShipSetsModel" (54 : Nat) "ShipSetsModel" "rights" "[Z"), (Jvm.Cond.fieldLink "ShipSetsModel" (57 : Nat) "ShipSetsModel" "blocks" "[I"), (Jvm.Cond.fieldLink "ShipSetsModel" (60 : Nat) "ShipSetsModel" "blockFrom" "[I"), (Jvm.Cond.fieldLink "ShipSetsModel" (63 : Nat) "ShipSetsModel" "blockTo" "[I"), (Jvm.Cond.fieldLink "ShipSetsModel" (67 : Nat) "ShipSetsModel" "given" "[Z"), (Jvm.Cond.fieldLink "ShipSetsModel" (70 : Nat) "ShipSetsModel" "marks" "[I"), (Jvm.Cond.fieldLink "ShipSetsModel" (73 : Nat) "ShipSetsModel" "clock" "[J"), (Jvm.Cond.fieldLink "ShipSetsModel" (76 : Nat) "ShipSetsModel" "real" "[J"), (Jvm.Cond.fieldLink "ShipSetsModel" (79 : Nat) "ShipSetsModel" "current" "[Z"), (Jvm.Cond.lays "ShipSetsModel" "ShipSetsModel" "tellers" "I"), (Jvm.Cond.laysFinal "ShipSetsModel" "ShipSetsModel" "closed" "[Z"), (Jvm.Cond.lays "ShipSetsModel" "ShipSetsModel" "tellings" "I"), (Jvm.Cond.laysFinal "ShipSetsModel" "ShipSetsModel" "who" "[I"), (Jvm.Cond.laysFinal "ShipSetsModel" "ShipSetsModel" "number" "[I"), (Jvm.Cond.laysFinal "ShipSetsModel" "ShipSetsModel" "thing" "[I"), (Jvm.Cond.laysFinal "ShipSetsModel" "ShipSetsModel" "kind" "[I"), (Jvm.Cond.laysFinal "ShipSetsModel" "ShipSetsModel" "value" "[J"), (Jvm.Cond.laysFinal "ShipSetsModel" "ShipSetsModel" "from" "[I"), (Jvm.Cond.lays "ShipSetsModel" "ShipSetsModel" "sets" "I"), (Jvm.Cond.laysFinal "ShipSetsModel" "ShipSetsModel" "holds" "[Z"), (Jvm.Cond.laysFinal "ShipSetsModel" "ShipSetsModel" "settled" "[Z"), (Jvm.Cond.laysFinal "ShipSetsModel" "ShipSetsModel" "inBatch" "[Z"), (Jvm.Cond.lays "ShipSetsModel" "ShipSetsModel" "settlings" "I"), (Jvm.Cond.laysFinal "ShipSetsModel" "ShipSetsModel" "ofThing" "[I"), (Jvm.Cond.laysFinal "ShipSetsModel" "ShipSetsModel" "ofKind" "[I"), (Jvm.Cond.laysFinal "ShipSetsModel" "ShipSetsModel" "ofTeller" "[I"), (Jvm.Cond.laysFinal "ShipSetsModel" "ShipSetsModel" "kept" "[Z"), (Jvm.Cond.laysFinal "ShipSetsModel" "ShipSetsModel" "rights" "[Z"), (Jvm.Cond.laysFinal "ShipSetsModel" "ShipSetsModel" "blocks" "[I"), (Jvm.Cond.laysFinal "ShipSetsModel" "ShipSetsModel" "blockFrom" "[I"), (Jvm.Cond.laysFinal "ShipSetsModel" "ShipSetsModel" "blockTo" "[I"), (Jvm.Cond.laysFinal "ShipSetsModel" "ShipSetsModel" "given" "[Z"), (Jvm.Cond.laysFinal "ShipSetsModel" "ShipSetsModel" "marks" "[I"), (Jvm.Cond.laysFinal "ShipSetsModel" "ShipSetsModel" "clock" "[J"), (Jvm.Cond.laysFinal "ShipSetsModel" "ShipSetsModel" "real" "[J"), (Jvm.Cond.laysFinal "ShipSetsModel" "ShipSetsModel" "current" "[Z"), (Jvm.Cond.methodLink "ShipSetsLaw" (17 : Nat) ({ cls := "ShipSetsModel", name := "teller", desc := "()I" } : Jvm.MethodName)), (Jvm.Cond.instanceMethod ({ cls := "ShipSetsModel", name := "teller", desc := "()I" } : Jvm.MethodName)), (Jvm.Cond.selects "ShipSetsModel" ({ cls := "ShipSetsModel", name := "teller", desc := "()I" } : Jvm.MethodName) ({ cls := "ShipSetsModel", name := "teller", desc := "()I" } : Jvm.MethodName)), (Jvm.Cond.code ({ cls := "ShipSetsModel", name := "teller", desc := "()I" } : Jvm.MethodName) prog_11_method_6_code (1 : Nat) (Option.some Jvm.ClassFile.FieldType.int)), (Jvm.Cond.methodLink "ShipSetsLaw" (24 : Nat) ({ cls := "ShipSetsModel", name := "tell", desc := "(IIIIJI)I" } : Jvm.MethodName)), (Jvm.Cond.instanceMethod ({ cls := "ShipSetsModel", name := "tell", desc := "(IIIIJI)I" } : Jvm.MethodName)), (Jvm.Cond.selects "ShipSetsModel" ({ cls := "ShipSetsModel", name := "tell", desc := "(IIIIJI)I" } : Jvm.MethodName) ({ cls := "ShipSetsModel", name := "tell", desc := "(IIIIJI)I" } : Jvm.MethodName)), (Jvm.Cond.code ({ cls := "ShipSetsModel", name := "tell", desc := "(IIIIJI)I" } : Jvm.MethodName) prog_11_method_8_code (10 : Nat) (Option.some Jvm.ClassFile.FieldType.int)), (Jvm.Cond.methodLink "ShipSetsModel" (92 : Nat) ({ cls := "ShipSetsModel", name := "isTeller", desc := "(I)Z" } : Jvm.MethodName)), (Jvm.Cond.instanceMethod ({ cls := "ShipSetsModel", name := "isTeller", desc := "(I)Z" } : Jvm.MethodName)), (Jvm.Cond.code ({ cls := "ShipSetsModel", name := "isTeller", desc := "(I)Z" } : Jvm.MethodName) prog_11_method_4_code (2 : Nat) (Option.some Jvm.ClassFile.FieldType.boolean)), (Jvm.Cond.constantLong "ShipSetsModel" (96 : Nat) (9999 : Int64)), (Jvm.Cond.methodLink "ShipSetsModel" (98 : Nat) ({ cls := "ShipSetsModel", name := "isIn", desc := "(JJJ)Z" } : Jvm.MethodName)), (Jvm.Cond.static ({ cls := "ShipSetsModel", name := "isIn", desc := "(JJJ)Z" } : Jvm.MethodName)), (Jvm.Cond.code ({ cls := "ShipSetsModel", name := "isIn", desc := "(JJJ)Z" } : Jvm.MethodName) prog_11_method_3_code (6 : Nat) (Option.some Jvm.ClassFile.FieldType.boolean)), (Jvm.Cond.constantLong "ShipSetsModel" (102 : Nat) (15 : Int64)), (Jvm.Cond.constantLong "ShipSetsModel" (104 : Nat) (7 : Int64)), (Jvm.Cond.constantLong "ShipSetsModel" (106 : Nat) (-1000000000 : Int64)), (Jvm.Cond.constantLong "ShipSetsModel" (108 : Nat) (1000000000 : Int64)), (Jvm.Cond.constantLong "ShipSetsModel" (110 : Nat) (100000 : Int64)), (Jvm.Cond.methodLink "ShipSetsModel" (112 : Nat) ({ cls := "ShipSetsModel", name := "told", desc := "(II)I" } : Jvm.MethodName)), (Jvm.Cond.instanceMethod ({ cls := "ShipSetsModel", name := "told", desc := "(II)I" } : Jvm.MethodName)), (Jvm.Cond.code ({ cls := "ShipSetsModel", name := "told", desc := "(II)I" } : Jvm.MethodName) prog_11_method_7_code (5 : Nat) (Option.some Jvm.ClassFile.FieldType.int)), (Jvm.Cond.methodLink "ShipSetsLaw" (89 : Nat) ({ cls := "ShipSetsModel", name := "close", desc := "(I)Z" } : Jvm.MethodName)), (Jvm.Cond.instanceMethod ({ cls := "ShipSetsModel", name := "close", desc := "(I)Z" } : Jvm.MethodName)), (Jvm.Cond.selects "ShipSetsModel" ({ cls := "ShipSetsModel", name := "close", desc := "(I)Z" } : Jvm.MethodName) ({ cls := "ShipSetsModel", name := "close", desc := "(I)Z" } : Jvm.MethodName)), (Jvm.Cond.code ({ cls := "ShipSetsModel", name := "close", desc := "(I)Z" } : Jvm.MethodName) prog_11_method_9_code (2 : Nat) (Option.some Jvm.ClassFile.FieldType.boolean)), (Jvm.Cond.methodLink "ShipSetsLaw" (29 : Nat) ({ cls := "ShipSetsModel", name := "set", desc := "(I)I" } : Jvm.MethodName)), (Jvm.Cond.instanceMethod ({ cls := "ShipSetsModel", name := "set", desc := "(I)I" } : Jvm.MethodName)), (Jvm.Cond.selects "ShipSetsModel" ({ cls := "ShipSetsModel", name := "set", desc := "(I)I" } : Jvm.MethodName) ({ cls := "ShipSetsModel", name := "set", desc := "(I)I" } : Jvm.MethodName)), (Jvm.Cond.code ({ cls := "ShipSetsModel", name := "set", desc := "(I)I" } : Jvm.MethodName) prog_11_method_10_code (3 : Nat) (Option.some Jvm.ClassFile.FieldType.int)), (Jvm.Cond.methodLink "ShipSetsLaw" (44 : Nat) ({ cls := "ShipSetsModel", name := "known", desc := "(IIII)J" } : Jvm.MethodName)), (Jvm.Cond.instanceMethod ({ cls := "ShipSetsModel", name := "known", desc := "(IIII)J" } : Jvm.MethodName))]
def gT_4 : List Cond := [(Jvm.Cond.selects "ShipSetsModel" ({ cls := "ShipSetsModel", name := "known", desc := "(IIII)J" } : Jvm.MethodName) ({ cls := "ShipSetsModel", name := "known", desc := "(IIII)J" } : Jvm.MethodName)), (Jvm.Cond.code ({ cls := "ShipSetsModel", name := "known", desc := "(IIII)J" } : Jvm.MethodName) prog_11_method_15_code (5 : Nat) (Option.some Jvm.ClassFile.FieldType.long)), (Jvm.Cond.methodLink "ShipSetsModel" (133 : Nat) ({ cls := "ShipSetsModel", name := "isSet", desc := "(I)Z" } : Jvm.MethodName)), (Jvm.Cond.instanceMethod ({ cls := "ShipSetsModel", name := "isSet", desc := "(I)Z" } : Jvm.MethodName)), (Jvm.Cond.code ({ cls := "ShipSetsModel", name := "isSet", desc := "(I)Z" } : Jvm.MethodName) prog_11_method_5_code (2 : Nat) (Option.some Jvm.ClassFile.FieldType.boolean)), (Jvm.Cond.methodLink "ShipSetsModel" (136 : Nat) ({ cls := "ShipSetsModel", name := "valueOf", desc := "(IIII)J" } : Jvm.MethodName)), (Jvm.Cond.instanceMethod ({ cls := "ShipSetsModel", name := "valueOf", desc := "(IIII)J" } : Jvm.MethodName)), (Jvm.Cond.code ({ cls := "ShipSetsModel", name := "valueOf", desc := "(IIII)J" } : Jvm.MethodName) prog_11_method_14_code (12 : Nat) (Option.some Jvm.ClassFile.FieldType.long)), (Jvm.Cond.methodLink "ShipSetsModel" (120 : Nat) ({ cls := "ShipSetsModel", name := "findCurrent", desc := "(IIII)I" } : Jvm.MethodName)), (Jvm.Cond.instanceMethod ({ cls := "ShipSetsModel", name := "findCurrent", desc := "(IIII)I" } : Jvm.MethodName)), (Jvm.Cond.code ({ cls := "ShipSetsModel", name := "findCurrent", desc := "(IIII)I" } : Jvm.MethodName) prog_11_method_11_code (9 : Nat) (Option.some Jvm.ClassFile.FieldType.int)), (Jvm.Cond.methodLink "ShipSetsModel" (116 : Nat) ({ cls := "ShipSetsModel", name := "isOf", desc := "(IIIII)Z" } : Jvm.MethodName)), (Jvm.Cond.instanceMethod ({ cls := "ShipSetsModel", name := "isOf", desc := "(IIIII)Z" } : Jvm.MethodName)), (Jvm.Cond.code ({ cls := "ShipSetsModel", name := "isOf", desc := "(IIIII)Z" } : Jvm.MethodName) prog_11_method_12_code (6 : Nat) (Option.some Jvm.ClassFile.FieldType.boolean)), (Jvm.Cond.constantLong "ShipSetsModel" (124 : Nat) (-9223372036854775808 : Int64)), (Jvm.Cond.methodLink "ShipSetsModel" (129 : Nat) ({ cls := "ShipSetsModel", name := "counts", desc := "(IIII)Z" } : Jvm.MethodName)), (Jvm.Cond.instanceMethod ({ cls := "ShipSetsModel", name := "counts", desc := "(IIII)Z" } : Jvm.MethodName)), (Jvm.Cond.code ({ cls := "ShipSetsModel", name := "counts", desc := "(IIII)Z" } : Jvm.MethodName) prog_11_method_13_code (7 : Nat) (Option.some Jvm.ClassFile.FieldType.boolean)), (Jvm.Cond.methodLink "ShipSetsLaw" (34 : Nat) ({ cls := "ShipSetsModel", name := "join", desc := "(II)I" } : Jvm.MethodName)), (Jvm.Cond.instanceMethod ({ cls := "ShipSetsModel", name := "join", desc := "(II)I" } : Jvm.MethodName)), (Jvm.Cond.selects "ShipSetsModel" ({ cls := "ShipSetsModel", name := "join", desc := "(II)I" } : Jvm.MethodName) ({ cls := "ShipSetsModel", name := "join", desc := "(II)I" } : Jvm.MethodName)), (Jvm.Cond.code ({ cls := "ShipSetsModel", name := "join", desc := "(II)I" } : Jvm.MethodName) prog_11_method_17_code (5 : Nat) (Option.some Jvm.ClassFile.FieldType.int)), (Jvm.Cond.methodLink "ShipSetsModel" (141 : Nat) ({ cls := "ShipSetsModel", name := "isConflict", desc := "(III)Z" } : Jvm.MethodName)), (Jvm.Cond.instanceMethod ({ cls := "ShipSetsModel", name := "isConflict", desc := "(III)Z" } : Jvm.MethodName)), (Jvm.Cond.code ({ cls := "ShipSetsModel", name := "isConflict", desc := "(III)Z" } : Jvm.MethodName) prog_11_method_16_code (4 : Nat) (Option.some Jvm.ClassFile.FieldType.boolean)), (Jvm.Cond.constant "ShipSetsModel" (140 : Nat) (100000 : Int32)), (Jvm.Cond.methodLink "ShipSetsLaw" (39 : Nat) ({ cls := "ShipSetsModel", name := "equal", desc := "(II)Z" } : Jvm.MethodName)), (Jvm.Cond.instanceMethod ({ cls := "ShipSetsModel", name := "equal", desc := "(II)Z" } : Jvm.MethodName)), (Jvm.Cond.selects "ShipSetsModel" ({ cls := "ShipSetsModel", name := "equal", desc := "(II)Z" } : Jvm.MethodName) ({ cls := "ShipSetsModel", name := "equal", desc := "(II)Z" } : Jvm.MethodName)), (Jvm.Cond.code ({ cls := "ShipSetsModel", name := "equal", desc := "(II)Z" } : Jvm.MethodName) prog_11_method_18_code (5 : Nat) (Option.some Jvm.ClassFile.FieldType.boolean)), (Jvm.Cond.methodLink "ShipSetsLaw" (49 : Nat) ({ cls := "ShipSetsModel", name := "conflict", desc := "(III)I" } : Jvm.MethodName)), (Jvm.Cond.instanceMethod ({ cls := "ShipSetsModel", name := "conflict", desc := "(III)I" } : Jvm.MethodName)), (Jvm.Cond.selects "ShipSetsModel" ({ cls := "ShipSetsModel", name := "conflict", desc := "(III)I" } : Jvm.MethodName) ({ cls := "ShipSetsModel", name := "conflict", desc := "(III)I" } : Jvm.MethodName)), (Jvm.Cond.code ({ cls := "ShipSetsModel", name := "conflict", desc := "(III)I" } : Jvm.MethodName) prog_11_method_19_code (6 : Nat) (Option.some Jvm.ClassFile.FieldType.int)), (Jvm.Cond.methodLink "ShipSetsLaw" (54 : Nat) ({ cls := "ShipSetsModel", name := "settle", desc := "(IIII)I" } : Jvm.MethodName)), (Jvm.Cond.instanceMethod ({ cls := "ShipSetsModel", name := "settle", desc := "(IIII)I" } : Jvm.MethodName)), (Jvm.Cond.selects "ShipSetsModel" ({ cls := "ShipSetsModel", name := "settle", desc := "(IIII)I" } : Jvm.MethodName) ({ cls := "ShipSetsModel", name := "settle", desc := "(IIII)I" } : Jvm.MethodName)), (Jvm.Cond.code ({ cls := "ShipSetsModel", name := "settle", desc := "(IIII)I" } : Jvm.MethodName) prog_11_method_20_code (8 : Nat) (Option.some Jvm.ClassFile.FieldType.int)), (Jvm.Cond.methodLink "ShipSetsLaw" (59 : Nat) ({ cls := "ShipSetsModel", name := "batch", desc := "(I)Z" } : Jvm.MethodName)), (Jvm.Cond.instanceMethod ({ cls := "ShipSetsModel", name := "batch", desc := "(I)Z" } : Jvm.MethodName)), (Jvm.Cond.selects "ShipSetsModel" ({ cls := "ShipSetsModel", name := "batch", desc := "(I)Z" } : Jvm.MethodName) ({ cls := "ShipSetsModel", name := "batch", desc := "(I)Z" } : Jvm.MethodName)), (Jvm.Cond.code ({ cls := "ShipSetsModel", name := "batch", desc := "(I)Z" } : Jvm.MethodName) prog_11_method_21_code (3 : Nat) (Option.some Jvm.ClassFile.FieldType.boolean)), (Jvm.Cond.methodLink "ShipSetsLaw" (63 : Nat) ({ cls := "ShipSetsModel", name := "endBatch", desc := "(I)Z" } : Jvm.MethodName)), (Jvm.Cond.instanceMethod ({ cls := "ShipSetsModel", name := "endBatch", desc := "(I)Z" } : Jvm.MethodName)), (Jvm.Cond.selects "ShipSetsModel" ({ cls := "ShipSetsModel", name := "endBatch", desc := "(I)Z" } : Jvm.MethodName) ({ cls := "ShipSetsModel", name := "endBatch", desc := "(I)Z" } : Jvm.MethodName)), (Jvm.Cond.code ({ cls := "ShipSetsModel", name := "endBatch", desc := "(I)Z" } : Jvm.MethodName) prog_11_method_22_code (2 : Nat) (Option.some Jvm.ClassFile.FieldType.boolean)), (Jvm.Cond.methodLink "ShipSetsLaw" (68 : Nat) ({ cls := "ShipSetsModel", name := "right", desc := "(IIZ)Z" } : Jvm.MethodName)), (Jvm.Cond.instanceMethod ({ cls := "ShipSetsModel", name := "right", desc := "(IIZ)Z" } : Jvm.MethodName)), (Jvm.Cond.selects "ShipSetsModel" ({ cls := "ShipSetsModel", name := "right", desc := "(IIZ)Z" } : Jvm.MethodName) ({ cls := "ShipSetsModel", name := "right", desc := "(IIZ)Z" } : Jvm.MethodName)), (Jvm.Cond.code ({ cls := "ShipSetsModel", name := "right", desc := "(IIZ)Z" } : Jvm.MethodName) prog_11_method_23_code (4 : Nat) (Option.some Jvm.ClassFile.FieldType.boolean)), (Jvm.Cond.constantLong "ShipSetsModel" (145 : Nat) (9 : Int64)), (Jvm.Cond.methodLink "ShipSetsLaw" (72 : Nat) ({ cls := "ShipSetsModel", name := "seen", desc := "(IIII)J" } : Jvm.MethodName)), (Jvm.Cond.instanceMethod ({ cls := "ShipSetsModel", name := "seen", desc := "(IIII)J" } : Jvm.MethodName)), (Jvm.Cond.selects "ShipSetsModel" ({ cls := "ShipSetsModel", name := "seen", desc := "(IIII)J" } : Jvm.MethodName) ({ cls := "ShipSetsModel", name := "seen", desc := "(IIII)J" } : Jvm.MethodName)), (Jvm.Cond.code ({ cls := "ShipSetsModel", name := "seen", desc := "(IIII)J" } : Jvm.MethodName) prog_11_method_24_code (5 : Nat) (Option.some Jvm.ClassFile.FieldType.long)), (Jvm.Cond.methodLink "ShipSetsLaw" (77 : Nat) ({ cls := "ShipSetsModel", name := "block", desc := "(III)Z" } : Jvm.MethodName)), (Jvm.Cond.instanceMethod ({ cls := "ShipSetsModel", name := "block", desc := "(III)Z" } : Jvm.MethodName)), (Jvm.Cond.selects "ShipSetsModel" ({ cls := "ShipSetsModel", name := "block", desc := "(III)Z" } : Jvm.MethodName) ({ cls := "ShipSetsModel", name := "block", desc := "(III)Z" } : Jvm.MethodName)), (Jvm.Cond.code ({ cls := "ShipSetsModel", name := "block", desc := "(III)Z" } : Jvm.MethodName) prog_11_method_26_code (5 : Nat) (Option.some Jvm.ClassFile.FieldType.boolean)), (Jvm.Cond.methodLink "ShipSetsModel" (147 : Nat) ({ cls := "ShipSetsModel", name := "inBlock", desc := "(II)Z" } : Jvm.MethodName)), (Jvm.Cond.instanceMethod ({ cls := "ShipSetsModel", name := "inBlock", desc := "(II)Z" } : Jvm.MethodName)), (Jvm.Cond.code ({ cls := "ShipSetsModel", name := "inBlock", desc := "(II)Z" } : Jvm.MethodName) prog_11_method_25_code (5 : Nat) (Option.some Jvm.ClassFile.FieldType.boolean)), (Jvm.Cond.methodLink "ShipSetsLaw" (81 : Nat) ({ cls := "ShipSetsModel", name := "number", desc := "(I)I" } : Jvm.MethodName)), (Jvm.Cond.instanceMethod ({ cls := "ShipSetsModel", name := "number", desc := "(I)I" } : Jvm.MethodName)), (Jvm.Cond.selects "ShipSetsModel" ({ cls := "ShipSetsModel", name := "number", desc := "(I)I" } : Jvm.MethodName) ({ cls := "ShipSetsModel", name := "number", desc := "(I)I" } : Jvm.MethodName)), (Jvm.Cond.code ({ cls := "ShipSetsModel", name := "number", desc := "(I)I" } : Jvm.MethodName) prog_11_method_27_code (3 : Nat) (Option.some Jvm.ClassFile.FieldType.int)), (Jvm.Cond.methodLink "ShipSetsLaw" (85 : Nat) ({ cls := "ShipSetsModel", name := "lost", desc := "(III)I" } : Jvm.MethodName)), (Jvm.Cond.instanceMethod ({ cls := "ShipSetsModel", name := "lost", desc := "(III)I" } : Jvm.MethodName)), (Jvm.Cond.selects "ShipSetsModel" ({ cls := "ShipSetsModel", name := "lost", desc := "(III)I" } : Jvm.MethodName) ({ cls := "ShipSetsModel", name := "lost", desc := "(III)I" } : Jvm.MethodName)), (Jvm.Cond.code ({ cls := "ShipSetsModel", name := "lost", desc := "(III)I" } : Jvm.MethodName) prog_11_method_28_code (9 : Nat) (Option.some Jvm.ClassFile.FieldType.int)), (Jvm.Cond.methodLink "ShipSetsLaw" (94 : Nat) ({ cls := "ShipSetsModel", name := "mark", desc := "(IJJ)Z" } : Jvm.MethodName)), (Jvm.Cond.instanceMethod ({ cls := "ShipSetsModel", name := "mark", desc := "(IJJ)Z" } : Jvm.MethodName)), (Jvm.Cond.selects "ShipSetsModel" ({ cls := "ShipSetsModel", name := "mark", desc := "(IJJ)Z" } : Jvm.MethodName) ({ cls := "ShipSetsModel", name := "mark", desc := "(IJJ)Z" } : Jvm.MethodName)), (Jvm.Cond.code ({ cls := "ShipSetsModel", name := "mark", desc := "(IJJ)Z" } : Jvm.MethodName) prog_11_method_29_code (8 : Nat) (Option.some Jvm.ClassFile.FieldType.boolean)), (Jvm.Cond.methodLink "ShipSetsLaw" (99 : Nat) ({ cls := "ShipSetsModel", name := "corrected", desc := "(IJI)J" } : Jvm.MethodName)), (Jvm.Cond.instanceMethod ({ cls := "ShipSetsModel", name := "corrected", desc := "(IJI)J" } : Jvm.MethodName)), (Jvm.Cond.selects "ShipSetsModel" ({ cls := "ShipSetsModel", name := "corrected", desc := "(IJI)J" } : Jvm.MethodName) ({ cls := "ShipSetsModel", name := "corrected", desc := "(IJI)J" } : Jvm.MethodName)), (Jvm.Cond.code ({ cls := "ShipSetsModel", name := "corrected", desc := "(IJI)J" } : Jvm.MethodName) prog_11_method_30_code (16 : Nat) (Option.some Jvm.ClassFile.FieldType.long)), (Jvm.Cond.constantLong "ShipSetsModel" (151 : Nat) (-1 : Int64)), (Jvm.Cond.constantLong "ShipSetsLaw" (18 : Nat) (4294967295 : Int64)), (Jvm.Cond.sameMethod "[Ljava/lang/Object;" "java/lang/Object" "getClass" "()Ljava/lang/Class;"), (Jvm.Cond.selects "[Ljava/lang/Object;" ({ cls := "java/lang/Object", name := "getClass", desc := "()Ljava/lang/Class;" } : Jvm.MethodName) ({ cls := "java/lang/Object", name := "getClass", desc := "()Ljava/lang/Class;" } : Jvm.MethodName))]
def gT_s : List Cond := k2_sels lw_privs
def gT : List Cond := gT_s ++ (gT_0 ++ (gT_1 ++ (gT_2 ++ (gT_3 ++ (gT_4)))))
theorem gT_in0 {w : Cond} (i : Nat) (h : gT_0[i]? = some w) : w ∈ gT := List.mem_append_right _ ((List.mem_append_left _ (List.mem_of_getElem? h)))
theorem gT_in1 {w : Cond} (i : Nat) (h : gT_1[i]? = some w) : w ∈ gT := List.mem_append_right _ (List.mem_append_right _ ((List.mem_append_left _ (List.mem_of_getElem? h))))
theorem gT_in2 {w : Cond} (i : Nat) (h : gT_2[i]? = some w) : w ∈ gT := List.mem_append_right _ (List.mem_append_right _ (List.mem_append_right _ ((List.mem_append_left _ (List.mem_of_getElem? h)))))
theorem gT_in3 {w : Cond} (i : Nat) (h : gT_3[i]? = some w) : w ∈ gT := List.mem_append_right _ (List.mem_append_right _ (List.mem_append_right _ (List.mem_append_right _ ((List.mem_append_left _ (List.mem_of_getElem? h))))))
theorem gT_in4 {w : Cond} (i : Nat) (h : gT_4[i]? = some w) : w ∈ gT := List.mem_append_right _ (List.mem_append_right _ (List.mem_append_right _ (List.mem_append_right _ (List.mem_append_right _ ((List.mem_of_getElem? h))))))
theorem gT_ins {w : Cond} (i : Nat) (h : gT_s[i]? = some w) : w ∈ gT := List.mem_append_left _ (List.mem_of_getElem? h)
theorem gT_all : gT.all goodWord = true := by decide +kernel
theorem gT_good : ∀ w ∈ gT, (w.onTables && w.keeps) = true ∨ ∃ ty, w = .arrayClass ty := fun w h => good_of_word (List.all_eq_true.mp gT_all w h)
def gNF : List (String × Nat × String × String × String × String) := [("ShipSets$Settling", 18, "ShipSets$Current", "numbers", "[I", "ShipSets"), ("ShipSets$Teller", 65, "ShipSets$Blocks", "to", "[I", "ShipSets"), ("ShipSets$Teller", 61, "ShipSets$Blocks", "next", "[I", "ShipSets"), ("ShipSets$Teller", 58, "ShipSets$Blocks", "count", "I", "ShipSets"), ("ShipSets", 87, "ShipSets$Teller", "told", "Ljava/util/ArrayList;", "ShipSets"), ("ShipSets", 171, "ShipSets$Teller", "blocks", "LShipSets$Blocks;", "ShipSets"), ("ShipSets", 189, "ShipSets$Teller", "clock", "LShipSets$Clock;", "ShipSets"), ("ShipSets", 83, "ShipSets$Teller", "closed", "Z", "ShipSets"), ("ShipSets$Holding", 25, "ShipSets$Telling", "teller", "I", "ShipSets"), ("ShipSets$Current", 31, "ShipSets$Telling", "teller", "I", "ShipSets"), ("ShipSets$Holding", 19, "ShipSets$Telling", "order", "I", "ShipSets"), ("ShipSets$Teller", 46, "ShipSets$Telling", "number", "I", "ShipSets"), ("ShipSets$Current", 25, "ShipSets$Telling", "number", "I", "ShipSets"), ("ShipSets$Current", 34, "ShipSets$Telling", "value", "J", "ShipSets"), ("ShipSets", 215, "ShipSets$Telling", "on", "I", "ShipSets"), ("ShipSets", 224, "ShipSets$Telling", "earlier", "LShipSets$Telling;", "ShipSets"), ("ShipSets", 104, "ShipSets$Holding", "toldBy", "[I", "ShipSets"), ("ShipSets", 100, "ShipSets$ShipSet", "now", "LShipSets$Holding;", "ShipSets"), ("ShipSets", 159, "ShipSets$ShipSet", "shown", "LShipSets$Holding;", "ShipSets"), ("ShipSets", 156, "ShipSets$ShipSet", "inBatch", "Z", "ShipSets"), ("ShipSets", 243, "ShipSets$Settling", "teller", "I", "ShipSets")]
def gNM : List (String × Nat × MethodName × String) := [("ShipSets", 36, (⟨"ShipSets$Current", "<init>", "()V"⟩ : MethodName), "ShipSets"), ("ShipSets", 51, (⟨"ShipSets$Teller", "<init>", "()V"⟩ : MethodName), "ShipSets"), ("ShipSets$Teller", 20, (⟨"ShipSets$Blocks", "<init>", "()V"⟩ : MethodName), "ShipSets"), ("ShipSets$Teller", 27, (⟨"ShipSets$Clock", "<init>", "()V"⟩ : MethodName), "ShipSets"), ("ShipSets", 99, (⟨"ShipSets$ShipSet", "<init>", "()V"⟩ : MethodName), "ShipSets"), ("ShipSets$ShipSet", 9, (⟨"ShipSets$Holding", "<init>", "()V"⟩ : MethodName), "ShipSets")]
def gNC : List (String × String) := [("[I", "java/lang/Cloneable"), ("ShipSets$Teller", "ShipSets$Teller"), ("ShipSets$Telling", "ShipSets$Telling"), ("ShipSets$ShipSet", "ShipSets$ShipSet"), ("ShipSets$Settling", "ShipSets$Settling"), ("ShipSets", "java/lang/Object"), ("ShipSets$Current", "java/lang/Object"), ("ShipSetsModel", "java/lang/Object"), ("ShipSets$Teller", "java/lang/Object"), ("ShipSets$Blocks", "java/lang/Object"), ("ShipSets$Clock", "java/lang/Object"), ("ShipSets$Telling", "java/lang/Object"), ("ShipSets$ShipSet", "java/lang/Object"), ("ShipSets$Holding", "java/lang/Object"), ("ShipSets$Settling", "java/lang/Object")]
def gAO : List String := ["ShipSets$Telling", "java/lang/Object"]
def gST : List (String × String × String × Nat) := [("java/util/ArrayList", "DEFAULTCAPACITY_EMPTY_ELEMENTDATA", "[Ljava/lang/Object;", 0)]
def gObs : List Nat := [1, 4, 6, 7]
end
section
/-! An abstract memory (cells by address, next address, slots made), the judgement xX over it, a row an instruction. Own work over the kit's W rows. -/
abbrev gV : Type := Int32 ⊕ Int64 ⊕ Option Nat
def gv : gV → Value
  | .inl x => .int x
  | .inr (.inl x) => .long x
  | .inr (.inr r) => va_rf r
def gc : gV → Nat
  | .inr (.inl _) => 2
  | _ => 1
theorem gv_cat (v : gV) : (gv v).category = gc v := by
  rcases v with x | x | r
  · rfl
  · rfl
  · cases r <;> rfl
def gl (q : Nat × gV) : Nat × Value := (q.1, gv q.2)
abbrev gE : Type := (Nat × vp_A) ⊕ (Nat × List Value)
abbrev gM : Type := (Nat → Option gE) × Nat × Nat × (Nat → Nat) × Nat × (Nat → Int32)
abbrev gD : Type := va_G × List (ClassId × FieldType) × Nat × (Nat → Nat) × Nat × (Nat → Int32)
def gA (E : gD) : Nat → Prop := fun q => E.2.2.1 ≤ q
def g_at (E : gD) (a : Nat) (e : gE) (H : Heap) : Prop := match e with
  | .inl x => (x.1 < 100 → gA E a) ∧ ∃ q : ClassId × FieldType, E.2.1[x.1 % 100]? = some q ∧ H[a]? = some (vp_cell q.1 x.2)
  | .inr o => gA E a ∧ va_at E.1 gCl (a, .inr o) H
def gU (mm : gM) (a : Nat) (e : gE) : gM := (fun q => if q = a then some e else mm.1 q, mm.2)
def gN (mm : gM) (e : gE) (n : Nat) : gM := (fun q => if q = mm.2.1 then some e else mm.1 q, mm.2.1 + 1, mm.2.2.1 + n, mm.2.2.2)
def gH (E : gD) (mm : gM) (H : Heap) : Prop := (H.size = mm.2.1 ∧ E.2.2.1 ≤ mm.2.1 ∧ mm.2.2.2 = E.2.2.2) ∧ ∀ (a : Nat) (e : gE), mm.1 a = some e → g_at E a e H
def gLe (mm res : gM) : Prop := mm.2.1 ≤ res.2.1 ∧ mm.2.2.1 ≤ res.2.2.1
theorem g_at.kept {E : gD} {a : Nat} {e : gE} {H H1 : Heap} (h : g_at E a e H) (hq : H1[a]? = H[a]?) : g_at E a e H1 := by
  cases e with
  | inl x =>
    obtain ⟨h1, q, h2, h3⟩ := h
    exact ⟨h1, q, h2, by rw [hq]; exact h3⟩
  | inr o => exact ⟨h.1, va_at.kept h.2 hq⟩
theorem g_at.lt {E : gD} {a : Nat} {e : gE} {H : Heap} (h : g_at E a e H) : a < H.size := by
  cases e with
  | inl x =>
    obtain ⟨h1, q, h2, h3⟩ := h
    exact (Array.getElem?_eq_some_iff.mp h3).1
  | inr o => exact va_at.lt h.2
theorem gH.put {E : gD} {mm : gM} {a : Nat} {e : gE} {H H1 : Heap} (h : gH E mm H) (he : g_at E a e H1) (hz : H1.size = H.size) (oq : ∀ q : Nat, q ≠ a → H1[q]? = H[q]?) : gH E (gU mm a e) H1 := by
  refine ⟨⟨hz.trans h.1.1, h.1.2⟩, fun b f hb => ?_⟩
  by_cases hba : b = a
  · subst hba
    simp only [gU, if_true] at hb
    cases hb
    exact he
  · simp only [gU, if_neg hba] at hb
    exact (h.2 b f hb).kept (oq b hba)
theorem gH.push {E : gD} {mm : gM} {e : gE} {n : Nat} {H H1 : Heap} (h : gH E mm H) (he : g_at E H.size e H1) (hz : H1.size = H.size + 1) (oq : ∀ q : Nat, q < H.size → H1[q]? = H[q]?) : gH E (gN mm e n) H1 := by
  refine ⟨⟨by rw [hz, h.1.1]; rfl, Nat.le_succ_of_le h.1.2.1, h.1.2.2⟩, fun b f hb => ?_⟩
  by_cases hba : b = mm.2.1
  · subst hba
    simp only [gN, if_true] at hb
    cases hb
    rw [← h.1.1]
    exact he
  · simp only [gN, if_neg hba] at hb
    exact (h.2 b f hb).kept (oq b (h.2 b f hb).lt)
/-! what the tables say, along the whole run -/
abbrev gY : Type := String × String × ByteArray × Cond × Nat × Option FieldType × Nat × Nat
abbrev yO (Y : gY) : String := Y.1
abbrev yN (Y : gY) : String := Y.2.1
abbrev yB (Y : gY) : ByteArray := Y.2.2.1
abbrev yC (Y : gY) : Cond := Y.2.2.2.1
abbrev yL (Y : gY) : Nat := Y.2.2.2.2.1
abbrev yR (Y : gY) : Option FieldType := Y.2.2.2.2.2.1
abbrev yF (Y : gY) : Nat := Y.2.2.2.2.2.2.1
abbrev yW (Y : gY) : Nat := Y.2.2.2.2.2.2.2
def gK (E : gD) (U : State) : Prop := va_K E.1 gCl E.2.1 U ∧ E.2.1.map Prod.snd = gTys ∧
  (∀ q ∈ gNF, va_Nw (.fieldLinkNest q.1 q.2.1 q.2.2.1 q.2.2.2.1 q.2.2.2.2.1 q.2.2.2.2.2) U) ∧
  (∀ q ∈ gNM, va_Nw (.methodLinkNest q.1 q.2.1 q.2.2.1 q.2.2.2) U) ∧
  (∀ q ∈ gNC, va_Nw (.castable q.1 q.2) U) ∧ (∀ q ∈ gAO, va_AO q U) ∧
  (∀ q ∈ gST, va_Z q.1 q.2.1 q.2.2.1 (.ref (E.2.2.2.1 q.2.2.2)) (gA E) U U.heap) ∧
  va_T (.object "java/lang/Object") (E.2.2.2.1 0) 0 (fun _ => .null) (gA E) U U.heap ∧ va_Mi "[Ljava/lang/Object;" (E.2.2.2.1 1) U ∧ va_Dc U ∧ (va_X (E.2.2.2.1 2) E.2.2.2.2.1 E.2.2.2.2.2 U U.heap ∧ E.2.2.2.1 2 < E.2.2.1)
theorem gK.warm {E : gD} {s U : State} {locs : List Loc} (h : gK E s) (hW : s.WarmedH U.vm) (hS : va_S (gA E) s.heap U.heap locs) : gK E U := by
  obtain ⟨h1, h2, h3, h4, h5, h6, h7, h8, h9, h10, h11, h12⟩ := h
  have hlt : E.2.2.2.1 2 < s.heap.size := (Array.getElem?_eq_some_iff.mp h11.choose_spec.1).1
  exact ⟨va_K.moved hW.alike h1, h2, fun q hq => va_Nw.warmF hW (h3 q hq), fun q hq => va_Nw.warmM hW (h4 q hq), fun q hq => va_Nw.warmC hW (h5 q hq), fun q hq => va_AO.moved hW.alike (h6 q hq), fun q hq => ((h7 q hq).moved hW.alike).kept hS.2.1, (h8.moved hW.alike).kept hS.2.1, h9.moved hW.alike, h10.moved hW.alike, (h11.moved hW.alike).kept (hS.2.1 _ hlt (Nat.not_le.mpr h12)), h12⟩
theorem gK.calling {E : gD} {U : State} {g : JFrame} {mk : MethodId} {a : Array Value} (h : gK E U) : gK E (U.calling g mk a) := by
  obtain ⟨h1, h2, h3, h4, h5, h6, h7, h8, h9, h10, h11, h12⟩ := h
  have hv : U.vm.Alike (U.calling g mk a).vm := Vm.Alike.refl U.vm
  exact ⟨va_K.moved hv h1, h2, fun q hq => va_Nw.same rfl rfl (h3 q hq), fun q hq => va_Nw.same rfl rfl (h4 q hq), fun q hq => va_Nw.same rfl rfl (h5 q hq), fun q hq => va_AO.moved hv (h6 q hq), fun q hq => (h7 q hq).moved hv, h8.moved hv, h9.moved hv, h10.moved hv, h11.moved hv, h12⟩
def gQ (E : gD) (rv : Option Value) (res : gM) : Array Value → State → Outcome → State → Prop := fun _ st o t => o = .returned rv ∧ gH E res t.heap ∧ va_F (gA E) st t
abbrev gR (Y : gY) (n0 s0 : Nat) (res : gM) : Room := { frames := yF Y, cells := res.2.1 - n0, slots := res.2.2.1 - s0, locals := yW Y }
def xC (Y : gY) (E : gD) (p : Program) (s : State) (m : MethodId) (args : Array Value) (meth : Method) (c : Code) : Prop :=
  p.tables.exec = Jvm.exec ∧ c.code = yB Y ∧ meth.sig.returnType = yR Y ∧ c.maxLocals = yL Y ∧ s.vm.findClass (yO Y) = some m.cls ∧ (∀ w ∈ yC Y :: gT, w.before args s = true) ∧ meth.locks = false ∧ meth.name = yN Y ∧ gK E s
def xX (l : Launch) (E : gD) (Y : gY) (n0 s0 : Nat) (rv : Option Value) (res : gM) (pc : Nat) (lv : List (Nat × gV)) (st : List gV) (mm : gM) : Prop :=
  gLe mm res ∧ ∀ (p : Program) (e : Env) (s : State) (m : MethodId) (args : Array Value) (below : List Frame) (meth : Method) (c : Code), xC Y E p s m args meth c → s.heap.size = n0 → n0 ≤ mm.2.1 → s0 ≤ mm.2.2.1 →
    ∀ (H : Heap) (locs : List Loc) (ls : Array Slot), gH E mm H → va_S (gA E) s.heap H locs → lv_has ls (yL Y) (lv.map gl) →
      W p l e (gR Y n0 s0 res) s m args below meth c H locs (mm.2.1 - n0) (mm.2.2.1 - s0) (MQ below (gQ E rv res) args s (res.2.1 - n0) (res.2.2.1 - s0) (gA E)) (F0 m pc ls (st.map gv))
def gMet (l : Launch) (E : gD) (Y : gY) (y : MethodName) (as : List gV) (rv : Option Value) (mm res : gM) : Prop :=
  Met l y (yC Y :: gT) (gR Y mm.2.1 mm.2.2.1 res) (va_Pc (as.map gv) (fun U => gH E mm U.heap ∧ gK E U)) (gQ E rv res) (res.2.1 - mm.2.1) (res.2.2.1 - mm.2.2.1) (gA E)
def gla : Nat → List gV → List (Nat × gV)
  | _, [] => []
  | i, v :: vs => (i, v) :: gla (i + gc v) vs
theorem gla_eq (vs : List gV) : ∀ i, lv_args i (vs.map gv) = (gla i vs).map gl := by
  induction vs with
  | nil => intro i; rfl
  | cons v vs ih =>
    intro i
    have hc : (if (gv v).category = 2 then i + 2 else i + 1) = i + gc v := by
      rw [gv_cat]
      rcases v with x | x | r <;> rfl
    show (i, gv v) :: lv_args (if (gv v).category = 2 then i + 2 else i + 1) (vs.map gv) = gl (i, v) :: (gla (i + gc v) vs).map gl
    rw [hc, ih]
    rfl
theorem gsl_len (vs : List gV) : (lg_sl (vs.map gv)).length = (vs.map gc).sum := by
  induction vs with
  | nil => rfl
  | cons v vs ih =>
    have e : lg_sl ((v :: vs).map gv) = (if (gv v).category = 2 then [Slot.val (gv v), .second] else [.val (gv v)]) ++ lg_sl (vs.map gv) := rfl
    rw [e, List.length_append, ih, List.map_cons, List.sum_cons, gv_cat]
    rcases v with x | x | r <;> rfl
/-- a method's contract out of the walk of its body -/
theorem x_met {Y : gY} {y : MethodName} {as : List gV} {rv : Option Value} {mm res : gM} (hy : plainName y.cls = true) (hc : yC Y = Cond.code y (yB Y) (yL Y) (yR Y)) (ho : y.cls = yO Y) (hnm : y.name = yN Y) (hn : (as.map gc).sum ≤ yL Y)
    {l : Launch} {E : gD} (h : xX l E Y mm.2.1 mm.2.2.1 rv res 0 (gla 0 as) [] mm) : gMet l E Y y as rv mm res := by
  refine Met.ofW (cc := yB Y) (maxL := yL Y) (ret := yR Y) hy (by rw [hc]) ?_
  intro p e s m args below meth c s₁ B hml hv
  obtain ⟨rfl, hH, hK⟩ := hv
  have hts := atoms_spec (ws := yC Y :: gT) B.pre
  have hown : s.vm.findClass y.cls = some m.cls := findClass_of_methodNamed B.named
  have hw := h.2 p e s m _ below meth c ⟨B.exec, B.bytes, B.returns, hml, by rw [← ho]; exact hown, hts, B.notSynchronized, ((name_of_methodNamed B.named B.method).1).trans hnm, hK⟩ hH.1.1 (Nat.le_refl _) (Nat.le_refl _) s.heap [] _ hH va_S.rf (by
    have hl := lv_entry (as.map gv) (n := yL Y) (by rw [gsl_len]; exact hn)
    rw [gla_eq] at hl
    exact hl)
  rw [Nat.sub_self, Nat.sub_self] at hw
  rw [lg_entry_eq]
  exact hw
theorem g_mem {L : List Cond} {w : Cond} (i : Nat) (h : L[i]? = some w) : w ∈ L := List.mem_of_getElem? h
section GX
variable {l : Launch} {E : gD} {Y : gY} {n0 s0 : Nat} {rv : Option Value} {res mm mm1 : gM} {lv lv' : List (Nat × gV)} {st st' : List gV}
theorem x_same {pc pc' : Nat} (h : ∀ {p : Program} {e : Env} {s : State} {m : MethodId} {args : Array Value} {below : List Frame} {meth : Method} {c : Code} {H : Heap} {locs : List Loc} {ls : Array Slot} {cells slots : Nat} {Q : State → Prop}, xC Y E p s m args meth c → gH E mm H → va_S (gA E) s.heap H locs → lv_has ls (yL Y) (lv.map gl) → cells ≤ res.2.1 - n0 → slots ≤ res.2.2.1 - s0 →
      (∀ ls' : Array Slot, lv_has ls' (yL Y) (lv'.map gl) → W p l e (gR Y n0 s0 res) s m args below meth c H locs cells slots Q (F0 m pc' ls' (st'.map gv))) → W p l e (gR Y n0 s0 res) s m args below meth c H locs cells slots Q (F0 m pc ls (st.map gv)))
    (k : xX l E Y n0 s0 rv res pc' lv' st' mm) : xX l E Y n0 s0 rv res pc lv st mm := by
  refine ⟨k.1, ?_⟩
  intro p e s m args below meth c C hz h1 h2 H locs ls hH hS hl
  obtain ⟨k1, k2⟩ := k
  exact h C hH hS hl (Nat.sub_le_sub_right k1.1 _) (Nat.sub_le_sub_right k1.2 _) (fun ls' hl' => k2 p e s m args below meth c C hz h1 h2 H locs ls' hH hS hl')
/-- a row that writes one cell, or none: the sizes stay -/
theorem x_write {pc pc' : Nat} (hz : mm1.2 = mm.2) (h : ∀ {p : Program} {e : Env} {s : State} {m : MethodId} {args : Array Value} {below : List Frame} {meth : Method} {c : Code} {H : Heap} {locs : List Loc} {ls : Array Slot} {cells slots : Nat} {Q : State → Prop}, xC Y E p s m args meth c → gH E mm H → va_S (gA E) s.heap H locs → lv_has ls (yL Y) (lv.map gl) → cells ≤ res.2.1 - n0 → slots ≤ res.2.2.1 - s0 →
      (∀ (H1 : Heap) (locs1 : List Loc), gH E mm1 H1 → va_S (gA E) s.heap H1 locs1 → W p l e (gR Y n0 s0 res) s m args below meth c H1 locs1 cells slots Q (F0 m pc' ls (st'.map gv))) → W p l e (gR Y n0 s0 res) s m args below meth c H locs cells slots Q (F0 m pc ls (st.map gv)))
    (k : xX l E Y n0 s0 rv res pc' lv st' mm1) : xX l E Y n0 s0 rv res pc lv st mm := by
  obtain ⟨k1, k2⟩ := k
  obtain ⟨f, n, z⟩ := mm
  obtain ⟨f1, n1, z1⟩ := mm1
  obtain ⟨rfl, rfl⟩ : n1 = n ∧ z1 = z := by simpa using hz
  refine ⟨k1, ?_⟩
  intro p e s m args below meth c C hz h1 h2 H locs ls hH hS hl
  exact h C hH hS hl (Nat.sub_le_sub_right k1.1 _) (Nat.sub_le_sub_right k1.2 _) (fun H1 locs1 hH1 hS1 => k2 p e s m args below meth c C hz h1 h2 H1 locs1 ls hH1 hS1 hl)
/-- a row that makes a cell of n slots -/
theorem x_make {pc pc' n : Nat} (hz : mm1.2 = (mm.2.1 + 1, mm.2.2.1 + n, mm.2.2.2)) (h : ∀ {p : Program} {e : Env} {s : State} {m : MethodId} {args : Array Value} {below : List Frame} {meth : Method} {c : Code} {H : Heap} {locs : List Loc} {ls : Array Slot} {cells slots : Nat} {Q : State → Prop}, xC Y E p s m args meth c → gH E mm H → va_S (gA E) s.heap H locs → lv_has ls (yL Y) (lv.map gl) → cells + 1 ≤ res.2.1 - n0 → slots + n ≤ res.2.2.1 - s0 →
      (∀ (H1 : Heap) (locs1 : List Loc), gH E mm1 H1 → va_S (gA E) s.heap H1 locs1 → W p l e (gR Y n0 s0 res) s m args below meth c H1 locs1 (cells + 1) (slots + n) Q (F0 m pc' ls (st'.map gv))) → W p l e (gR Y n0 s0 res) s m args below meth c H locs cells slots Q (F0 m pc ls (st.map gv)))
    (k : xX l E Y n0 s0 rv res pc' lv st' mm1) : xX l E Y n0 s0 rv res pc lv st mm := by
  obtain ⟨k1, k2⟩ := k
  obtain ⟨f, a, z, w⟩ := mm
  obtain ⟨f1, a1, z1, w1⟩ := mm1
  obtain ⟨rfl, rfl, rfl⟩ : a1 = a + 1 ∧ z1 = z + n ∧ w1 = w := by simpa using hz
  obtain ⟨g1, g2⟩ := k1
  dsimp only at g1 g2
  refine ⟨⟨?_, ?_⟩, ?_⟩
  · dsimp only; omega
  · dsimp only; omega
  intro p e s m args below meth c C hz h1 h2 H locs ls hH hS hl
  dsimp only at h1 h2
  have e1 : a - n0 + 1 = a + 1 - n0 := by omega
  have e2 : z - s0 + n = z + n - s0 := by omega
  refine h C hH hS hl (by dsimp only; omega) (by dsimp only; omega) (fun H1 locs1 hH1 hS1 => ?_)
  dsimp only
  rw [e1, e2]
  exact k2 p e s m args below meth c C hz (by dsimp only; omega) (by dsimp only; omega) H1 locs1 ls hH1 hS1 hl
theorem x_sub (ks : List Nat) (hs : ks.filterMap (fun k => lv[k]?) = lv') {pc : Nat} (k : xX l E Y n0 s0 rv res pc lv' st mm) : xX l E Y n0 s0 rv res pc lv st mm := by
  refine x_same (fun C hH hS hl _ _ kk => kk _ (lv_sub hl ks ?_)) k
  subst hs
  show List.filterMap (fun k => (lv.map gl)[k]?) ks = List.map gl (List.filterMap (fun k => lv[k]?) ks)
  rw [List.map_filterMap]
  apply congrArg (fun f => List.filterMap f ks)
  funext k
  rw [List.getElem?_map]
theorem x_topi {x y : Int32} {pc : Nat} (e : y = x) (k : xX l E Y n0 s0 rv res pc lv (.inl y :: st) mm) : xX l E Y n0 s0 rv res pc lv (.inl x :: st) mm := e ▸ k
theorem x_topl {x y : Int64} {pc : Nat} (e : y = x) (k : xX l E Y n0 s0 rv res pc lv (.inr (.inl y) :: st) mm) : xX l E Y n0 s0 rv res pc lv (.inr (.inl x) :: st) mm := e ▸ k
theorem x_topr {x y : Option Nat} {pc : Nat} (e : y = x) (k : xX l E Y n0 s0 rv res pc lv (.inr (.inr y) :: st) mm) : xX l E Y n0 s0 rv res pc lv (.inr (.inr x) :: st) mm := e ▸ k
theorem gl_at {ls : Array Slot} {nL : Nat} (hl : lv_has ls nL (lv.map gl)) (j : Nat) {i : Nat} {v : gV} (hk : lv[j]? = some (i, v)) : ls[i]? = some (.val (gv v)) := lv_at hl j (by rw [List.getElem?_map, hk]; rfl)
/-! constants -/
theorem x_iconst (pc : Nat) {n : Int} {v : Int32} (hdg : decode (yB Y) pc = .ok (.iconst n, 1)) (hv : Int32.ofInt n = v) (k : xX l E Y n0 s0 rv res (pc + 1) lv (.inl v :: st) mm) : xX l E Y n0 s0 rv res pc lv st mm :=
  x_same (fun C hH hS hl _ _ kk => lv_iconst C.1 C.2.1 hdg hv (kk _ hl)) k
theorem x_bipush (pc : Nat) {n : Int} {v : Int32} (hdg : decode (yB Y) pc = .ok (.bipush n, 2)) (hv : (Int8.ofInt n).toInt32 = v) (k : xX l E Y n0 s0 rv res (pc + 2) lv (.inl v :: st) mm) : xX l E Y n0 s0 rv res pc lv st mm :=
  x_same (fun C hH hS hl _ _ kk => lv_bipush C.1 C.2.1 hdg hv (kk _ hl)) k
theorem x_sipush (pc : Nat) {n : Int} {v : Int32} (hdg : decode (yB Y) pc = .ok (.sipush n, 3)) (hv : (Int16.ofInt n).toInt32 = v) (k : xX l E Y n0 s0 rv res (pc + 3) lv (.inl v :: st) mm) : xX l E Y n0 s0 rv res pc lv st mm :=
  x_same (fun C hH hS hl _ _ kk => lv_sipush C.1 C.2.1 hdg hv (kk _ hl)) k
theorem x_lconst (pc : Nat) {n : Fin 2} {v : Int64} (hdg : decode (yB Y) pc = .ok (.lconst n, 1)) (hv : Int64.ofNat (n : Nat) = v) (k : xX l E Y n0 s0 rv res (pc + 1) lv (.inr (.inl v) :: st) mm) : xX l E Y n0 s0 rv res pc lv st mm :=
  x_same (fun C hH hS hl _ _ kk => lv_lconst C.1 C.2.1 hdg hv (kk _ hl)) k
theorem x_ldc (pc : Nat) {index : Nat} {v : Int32} (hdg : decode (yB Y) pc = .ok (.ldc index, 2)) (hw : Cond.constant (yO Y) index v ∈ gT) (k : xX l E Y n0 s0 rv res (pc + 2) lv (.inl v :: st) mm) : xX l E Y n0 s0 rv res pc lv st mm :=
  x_same (fun C hH hS hl _ _ kk => W.ldc C.1 C.2.1 C.2.2.2.2.1 (C.2.2.2.2.2.1 _ (List.mem_cons_of_mem _ hw)) rfl hdg (kk _ hl)) k
theorem x_ldc2 (pc : Nat) {index : Nat} {v : Int64} (hdg : decode (yB Y) pc = .ok (.ldc2_w index, 3)) (hw : Cond.constantLong (yO Y) index v ∈ gT) (k : xX l E Y n0 s0 rv res (pc + 3) lv (.inr (.inl v) :: st) mm) : xX l E Y n0 s0 rv res pc lv st mm :=
  x_same (fun C hH hS hl _ _ kk => W.ldc2 C.1 C.2.1 C.2.2.2.2.1 (C.2.2.2.2.2.1 _ (List.mem_cons_of_mem _ hw)) rfl hdg (kk _ hl)) k
theorem x_null (pc : Nat) (hdg : decode (yB Y) pc = .ok (.aconst_null, 1)) (k : xX l E Y n0 s0 rv res (pc + 1) lv (.inr (.inr none) :: st) mm) : xX l E Y n0 s0 rv res pc lv st mm :=
  x_same (fun C hH hS hl _ _ kk => lv_null C.1 C.2.1 hdg (kk _ hl)) k
/-! locals -/
theorem x_iloadn (pc j : Nat) {f : Fin 4} {i : Nat} {x : Int32} (hdg : decode (yB Y) pc = .ok (.iload_n f, 1)) (hi : (f : Nat) = i) (hk : lv[j]? = some (i, .inl x)) (k : xX l E Y n0 s0 rv res (pc + 1) lv (.inl x :: st) mm) : xX l E Y n0 s0 rv res pc lv st mm :=
  x_same (fun C hH hS hl _ _ kk => lv_iload_n C.1 C.2.1 hdg hi (gl_at hl j hk) (kk _ hl)) k
theorem x_iload (pc j : Nat) {i : Nat} {x : Int32} (hdg : decode (yB Y) pc = .ok (.iload i, 2)) (hk : lv[j]? = some (i, .inl x)) (k : xX l E Y n0 s0 rv res (pc + 2) lv (.inl x :: st) mm) : xX l E Y n0 s0 rv res pc lv st mm :=
  x_same (fun C hH hS hl _ _ kk => lv_iload C.1 C.2.1 hdg (gl_at hl j hk) (kk _ hl)) k
theorem x_lloadn (pc j : Nat) {f : Fin 4} {i : Nat} {x : Int64} (hdg : decode (yB Y) pc = .ok (.lload_n f, 1)) (hi : (f : Nat) = i) (hk : lv[j]? = some (i, .inr (.inl x))) (k : xX l E Y n0 s0 rv res (pc + 1) lv (.inr (.inl x) :: st) mm) : xX l E Y n0 s0 rv res pc lv st mm :=
  x_same (fun C hH hS hl _ _ kk => lv_lload_n C.1 C.2.1 hdg hi (gl_at hl j hk) (kk _ hl)) k
theorem x_lload (pc j : Nat) {i : Nat} {x : Int64} (hdg : decode (yB Y) pc = .ok (.lload i, 2)) (hk : lv[j]? = some (i, .inr (.inl x))) (k : xX l E Y n0 s0 rv res (pc + 2) lv (.inr (.inl x) :: st) mm) : xX l E Y n0 s0 rv res pc lv st mm :=
  x_same (fun C hH hS hl _ _ kk => lv_lload C.1 C.2.1 hdg (gl_at hl j hk) (kk _ hl)) k
theorem x_aloadn (pc j : Nat) {f : Fin 4} {i : Nat} {r : Option Nat} (hdg : decode (yB Y) pc = .ok (.aload_n f, 1)) (hi : (f : Nat) = i) (hk : lv[j]? = some (i, .inr (.inr r))) (k : xX l E Y n0 s0 rv res (pc + 1) lv (.inr (.inr r) :: st) mm) : xX l E Y n0 s0 rv res pc lv st mm := by
  cases r with
  | none => exact x_same (fun C hH hS hl _ _ kk => lv_aload_nN C.1 C.2.1 hdg hi (gl_at hl j hk) (kk _ hl)) k
  | some a => exact x_same (fun C hH hS hl _ _ kk => lv_aload_n C.1 C.2.1 hdg hi (gl_at hl j hk) (kk _ hl)) k
theorem x_aload (pc j : Nat) {i : Nat} {r : Option Nat} (hdg : decode (yB Y) pc = .ok (.aload i, 2)) (hk : lv[j]? = some (i, .inr (.inr r))) (k : xX l E Y n0 s0 rv res (pc + 2) lv (.inr (.inr r) :: st) mm) : xX l E Y n0 s0 rv res pc lv st mm := by
  cases r with
  | none => exact x_same (fun C hH hS hl _ _ kk => lv_aloadN C.1 C.2.1 hdg (gl_at hl j hk) (kk _ hl)) k
  | some a => exact x_same (fun C hH hS hl _ _ kk => lv_aload C.1 C.2.1 hdg (gl_at hl j hk) (kk _ hl)) k
def gk1 (i : Nat) (q : Nat × gV) : Bool := !(q.1 == i) && !(q.1 + 1 == i && gc q.2 == 2)
def gk2 (i : Nat) (q : Nat × gV) : Bool := !(q.1 == i) && (!(q.1 == i + 1) && !(q.1 + 1 == i && gc q.2 == 2))
theorem g_st1 {i : Nat} {v : gV} (h : (i, v) :: lv.filter (gk1 i) = lv') : (i, gv v) :: (lv.map gl).filter (fun q => !(q.1 == i) && !(q.1 + 1 == i && q.2.category == 2)) = lv'.map gl := by
  subst h
  rw [List.filter_map]
  show _ = gl (i, v) :: _
  congr 2
  apply congrArg (fun f => List.filter f lv)
  funext q
  simp [gk1, gl, gv_cat]
theorem g_st2 {i : Nat} {v : gV} (h : (i, v) :: lv.filter (gk2 i) = lv') : (i, gv v) :: (lv.map gl).filter (fun q => !(q.1 == i) && (!(q.1 == i + 1) && !(q.1 + 1 == i && q.2.category == 2))) = lv'.map gl := by
  subst h
  rw [List.filter_map]
  show _ = gl (i, v) :: _
  congr 2
  apply congrArg (fun f => List.filter f lv)
  funext q
  simp [gk2, gl, gv_cat]
theorem x_istoren (pc : Nat) {f : Fin 4} {i : Nat} {x : Int32} (hdg : decode (yB Y) pc = .ok (.istore_n f, 1)) (hi : (f : Nat) = i) (hn : i < yL Y) (hl' : (i, .inl x) :: lv.filter (gk1 i) = lv') (k : xX l E Y n0 s0 rv res (pc + 1) lv' st mm) : xX l E Y n0 s0 rv res pc lv (.inl x :: st) mm :=
  x_same (fun C hH hS hl _ _ kk => lv_istore_n C.1 C.2.1 hdg hi hl hn (g_st1 hl') kk) k
theorem x_istore (pc : Nat) {i : Nat} {x : Int32} (hdg : decode (yB Y) pc = .ok (.istore i, 2)) (hn : i < yL Y) (hl' : (i, .inl x) :: lv.filter (gk1 i) = lv') (k : xX l E Y n0 s0 rv res (pc + 2) lv' st mm) : xX l E Y n0 s0 rv res pc lv (.inl x :: st) mm :=
  x_same (fun C hH hS hl _ _ kk => lv_istore C.1 C.2.1 hdg hl hn (g_st1 hl') kk) k
theorem x_lstoren (pc : Nat) {f : Fin 4} {i : Nat} {x : Int64} (hdg : decode (yB Y) pc = .ok (.lstore_n f, 1)) (hi : (f : Nat) = i) (hn : i + 1 < yL Y) (hl' : (i, .inr (.inl x)) :: lv.filter (gk2 i) = lv') (k : xX l E Y n0 s0 rv res (pc + 1) lv' st mm) : xX l E Y n0 s0 rv res pc lv (.inr (.inl x) :: st) mm :=
  x_same (fun C hH hS hl _ _ kk => lv_lstore_n C.1 C.2.1 hdg hi hl hn (g_st2 hl') kk) k
theorem x_lstore (pc : Nat) {i : Nat} {x : Int64} (hdg : decode (yB Y) pc = .ok (.lstore i, 2)) (hn : i + 1 < yL Y) (hl' : (i, .inr (.inl x)) :: lv.filter (gk2 i) = lv') (k : xX l E Y n0 s0 rv res (pc + 2) lv' st mm) : xX l E Y n0 s0 rv res pc lv (.inr (.inl x) :: st) mm :=
  x_same (fun C hH hS hl _ _ kk => lv_lstore C.1 C.2.1 hdg hl hn (g_st2 hl') kk) k
theorem x_astoren (pc : Nat) {f : Fin 4} {i : Nat} {r : Option Nat} (hdg : decode (yB Y) pc = .ok (.astore_n f, 1)) (hi : (f : Nat) = i) (hn : i < yL Y) (hl' : (i, .inr (.inr r)) :: lv.filter (gk1 i) = lv') (k : xX l E Y n0 s0 rv res (pc + 1) lv' st mm) : xX l E Y n0 s0 rv res pc lv (.inr (.inr r) :: st) mm := by
  cases r with
  | none => exact x_same (fun C hH hS hl _ _ kk => lv_astore_nN C.1 C.2.1 hdg hi hl hn (g_st1 hl') kk) k
  | some a => exact x_same (fun C hH hS hl _ _ kk => lv_astore_n C.1 C.2.1 hdg hi hl hn (g_st1 hl') kk) k
theorem x_astore (pc : Nat) {i : Nat} {r : Option Nat} (hdg : decode (yB Y) pc = .ok (.astore i, 2)) (hn : i < yL Y) (hl' : (i, .inr (.inr r)) :: lv.filter (gk1 i) = lv') (k : xX l E Y n0 s0 rv res (pc + 2) lv' st mm) : xX l E Y n0 s0 rv res pc lv (.inr (.inr r) :: st) mm := by
  cases r with
  | none => exact x_same (fun C hH hS hl _ _ kk => lv_astoreN C.1 C.2.1 hdg hl hn (g_st1 hl') kk) k
  | some a => exact x_same (fun C hH hS hl _ _ kk => lv_astore C.1 C.2.1 hdg hl hn (g_st1 hl') kk) k
theorem x_iinc (pc j : Nat) {i : Nat} {n : Int} {x v : Int32} (hdg : decode (yB Y) pc = .ok (.iinc i n, 3)) (hk : lv[j]? = some (i, .inl x)) (hv : x + Int32.ofInt n = v) (hn : i < yL Y) (hl' : (i, .inl v) :: lv.filter (gk1 i) = lv') (k : xX l E Y n0 s0 rv res (pc + 3) lv' st mm) : xX l E Y n0 s0 rv res pc lv st mm :=
  x_same (fun C hH hS hl _ _ kk => lv_iinc (k := j) C.1 C.2.1 hdg hl (by rw [List.getElem?_map, hk]; rfl) hv hn (g_st1 hl') kk) k
/-! arithmetic -/
theorem x_iadd (pc : Nat) {x y : Int32} (hdg : decode (yB Y) pc = .ok (.iadd, 1)) (k : xX l E Y n0 s0 rv res (pc + 1) lv (.inl (x + y) :: st) mm) : xX l E Y n0 s0 rv res pc lv (.inl y :: .inl x :: st) mm :=
  x_same (fun C hH hS hl _ _ kk => lv_iadd C.1 C.2.1 hdg (kk _ hl)) k
theorem x_isub (pc : Nat) {x y : Int32} (hdg : decode (yB Y) pc = .ok (.isub, 1)) (k : xX l E Y n0 s0 rv res (pc + 1) lv (.inl (x - y) :: st) mm) : xX l E Y n0 s0 rv res pc lv (.inl y :: .inl x :: st) mm :=
  x_same (fun C hH hS hl _ _ kk => lv_isub C.1 C.2.1 hdg (kk _ hl)) k
theorem x_imul (pc : Nat) {x y : Int32} (hdg : decode (yB Y) pc = .ok (.imul, 1)) (k : xX l E Y n0 s0 rv res (pc + 1) lv (.inl (x * y) :: st) mm) : xX l E Y n0 s0 rv res pc lv (.inl y :: .inl x :: st) mm :=
  x_same (fun C hH hS hl _ _ kk => lv_imul C.1 C.2.1 hdg (kk _ hl)) k
theorem x_iand (pc : Nat) {x y : Int32} (hdg : decode (yB Y) pc = .ok (.iand, 1)) (k : xX l E Y n0 s0 rv res (pc + 1) lv (.inl (x &&& y) :: st) mm) : xX l E Y n0 s0 rv res pc lv (.inl y :: .inl x :: st) mm :=
  x_same (fun C hH hS hl _ _ kk => lv_iand C.1 C.2.1 hdg (kk _ hl)) k
theorem x_ior (pc : Nat) {x y : Int32} (hdg : decode (yB Y) pc = .ok (.ior, 1)) (k : xX l E Y n0 s0 rv res (pc + 1) lv (.inl (x ||| y) :: st) mm) : xX l E Y n0 s0 rv res pc lv (.inl y :: .inl x :: st) mm :=
  x_same (fun C hH hS hl _ _ kk => lv_ior C.1 C.2.1 hdg (kk _ hl)) k
theorem x_ixor (pc : Nat) {x y : Int32} (hdg : decode (yB Y) pc = .ok (.ixor, 1)) (k : xX l E Y n0 s0 rv res (pc + 1) lv (.inl (x ^^^ y) :: st) mm) : xX l E Y n0 s0 rv res pc lv (.inl y :: .inl x :: st) mm :=
  x_same (fun C hH hS hl _ _ kk => lv_ixor C.1 C.2.1 hdg (kk _ hl)) k
theorem x_ishl (pc : Nat) {x y : Int32} (hdg : decode (yB Y) pc = .ok (.ishl, 1)) (k : xX l E Y n0 s0 rv res (pc + 1) lv (.inl (x <<< (y &&& 31)) :: st) mm) : xX l E Y n0 s0 rv res pc lv (.inl y :: .inl x :: st) mm :=
  x_same (fun C hH hS hl _ _ kk => lv_ishl C.1 C.2.1 hdg (kk _ hl)) k
theorem x_ishr (pc : Nat) {x y : Int32} (hdg : decode (yB Y) pc = .ok (.ishr, 1)) (k : xX l E Y n0 s0 rv res (pc + 1) lv (.inl (x >>> (y &&& 31)) :: st) mm) : xX l E Y n0 s0 rv res pc lv (.inl y :: .inl x :: st) mm :=
  x_same (fun C hH hS hl _ _ kk => lv_ishr C.1 C.2.1 hdg (kk _ hl)) k
theorem x_iushr (pc : Nat) {x y : Int32} (hdg : decode (yB Y) pc = .ok (.iushr, 1)) (k : xX l E Y n0 s0 rv res (pc + 1) lv (.inl ((x.toUInt32 >>> (y.toUInt32 &&& Int32.toUInt32 31)).toInt32) :: st) mm) : xX l E Y n0 s0 rv res pc lv (.inl y :: .inl x :: st) mm :=
  x_same (fun C hH hS hl _ _ kk => lv_iushr C.1 C.2.1 hdg rfl (kk _ hl)) k
theorem x_idiv (pc : Nat) {x y : Int32} (hne : ¬ y = 0) (hdg : decode (yB Y) pc = .ok (.idiv, 1)) (k : xX l E Y n0 s0 rv res (pc + 1) lv (.inl (x / y) :: st) mm) : xX l E Y n0 s0 rv res pc lv (.inl y :: .inl x :: st) mm :=
  x_same (fun C hH hS hl _ _ kk => lv_idiv C.1 C.2.1 hdg hne (kk _ hl)) k
theorem x_irem (pc : Nat) {x y : Int32} (hne : ¬ y = 0) (hdg : decode (yB Y) pc = .ok (.irem, 1)) (k : xX l E Y n0 s0 rv res (pc + 1) lv (.inl (x - x / y * y) :: st) mm) : xX l E Y n0 s0 rv res pc lv (.inl y :: .inl x :: st) mm :=
  x_same (fun C hH hS hl _ _ kk => lv_irem C.1 C.2.1 hdg hne (kk _ hl)) k
theorem x_ineg (pc : Nat) {x : Int32} (hdg : decode (yB Y) pc = .ok (.ineg, 1)) (k : xX l E Y n0 s0 rv res (pc + 1) lv (.inl (-x) :: st) mm) : xX l E Y n0 s0 rv res pc lv (.inl x :: st) mm :=
  x_same (fun C hH hS hl _ _ kk => lv_ineg C.1 C.2.1 hdg (kk _ hl)) k
theorem x_i2l (pc : Nat) {x : Int32} (hdg : decode (yB Y) pc = .ok (.i2l, 1)) (k : xX l E Y n0 s0 rv res (pc + 1) lv (.inr (.inl x.toInt64) :: st) mm) : xX l E Y n0 s0 rv res pc lv (.inl x :: st) mm :=
  x_same (fun C hH hS hl _ _ kk => lv_i2l C.1 C.2.1 hdg rfl (kk _ hl)) k
theorem x_l2i (pc : Nat) {x : Int64} (hdg : decode (yB Y) pc = .ok (.l2i, 1)) (k : xX l E Y n0 s0 rv res (pc + 1) lv (.inl x.toInt32 :: st) mm) : xX l E Y n0 s0 rv res pc lv (.inr (.inl x) :: st) mm :=
  x_same (fun C hH hS hl _ _ kk => lv_l2i C.1 C.2.1 hdg rfl (kk _ hl)) k
theorem x_ladd (pc : Nat) {x y : Int64} (hdg : decode (yB Y) pc = .ok (.ladd, 1)) (k : xX l E Y n0 s0 rv res (pc + 1) lv (.inr (.inl (x + y)) :: st) mm) : xX l E Y n0 s0 rv res pc lv (.inr (.inl y) :: .inr (.inl x) :: st) mm :=
  x_same (fun C hH hS hl _ _ kk => lv_ladd C.1 C.2.1 hdg (kk _ hl)) k
theorem x_lsub (pc : Nat) {x y : Int64} (hdg : decode (yB Y) pc = .ok (.lsub, 1)) (k : xX l E Y n0 s0 rv res (pc + 1) lv (.inr (.inl (x - y)) :: st) mm) : xX l E Y n0 s0 rv res pc lv (.inr (.inl y) :: .inr (.inl x) :: st) mm :=
  x_same (fun C hH hS hl _ _ kk => lv_lsub C.1 C.2.1 hdg (kk _ hl)) k
theorem x_lmul (pc : Nat) {x y : Int64} (hdg : decode (yB Y) pc = .ok (.lmul, 1)) (k : xX l E Y n0 s0 rv res (pc + 1) lv (.inr (.inl (x * y)) :: st) mm) : xX l E Y n0 s0 rv res pc lv (.inr (.inl y) :: .inr (.inl x) :: st) mm :=
  x_same (fun C hH hS hl _ _ kk => lv_lmul C.1 C.2.1 hdg (kk _ hl)) k
theorem x_land (pc : Nat) {x y : Int64} (hdg : decode (yB Y) pc = .ok (.land, 1)) (k : xX l E Y n0 s0 rv res (pc + 1) lv (.inr (.inl (x &&& y)) :: st) mm) : xX l E Y n0 s0 rv res pc lv (.inr (.inl y) :: .inr (.inl x) :: st) mm :=
  x_same (fun C hH hS hl _ _ kk => lv_land C.1 C.2.1 hdg (kk _ hl)) k
theorem x_lor (pc : Nat) {x y : Int64} (hdg : decode (yB Y) pc = .ok (.lor, 1)) (k : xX l E Y n0 s0 rv res (pc + 1) lv (.inr (.inl (x ||| y)) :: st) mm) : xX l E Y n0 s0 rv res pc lv (.inr (.inl y) :: .inr (.inl x) :: st) mm :=
  x_same (fun C hH hS hl _ _ kk => lv_lor C.1 C.2.1 hdg (kk _ hl)) k
theorem x_lxor (pc : Nat) {x y : Int64} (hdg : decode (yB Y) pc = .ok (.lxor, 1)) (k : xX l E Y n0 s0 rv res (pc + 1) lv (.inr (.inl (x ^^^ y)) :: st) mm) : xX l E Y n0 s0 rv res pc lv (.inr (.inl y) :: .inr (.inl x) :: st) mm :=
  x_same (fun C hH hS hl _ _ kk => lv_lxor C.1 C.2.1 hdg (kk _ hl)) k
theorem x_lneg (pc : Nat) {x : Int64} (hdg : decode (yB Y) pc = .ok (.lneg, 1)) (k : xX l E Y n0 s0 rv res (pc + 1) lv (.inr (.inl (-x)) :: st) mm) : xX l E Y n0 s0 rv res pc lv (.inr (.inl x) :: st) mm :=
  x_same (fun C hH hS hl _ _ kk => lv_lneg C.1 C.2.1 hdg (kk _ hl)) k
theorem x_ldiv (pc : Nat) {x y : Int64} (hne : ¬ y = 0) (hdg : decode (yB Y) pc = .ok (.ldiv, 1)) (k : xX l E Y n0 s0 rv res (pc + 1) lv (.inr (.inl (x / y)) :: st) mm) : xX l E Y n0 s0 rv res pc lv (.inr (.inl y) :: .inr (.inl x) :: st) mm :=
  x_same (fun C hH hS hl _ _ kk => lv_ldiv C.1 C.2.1 hdg hne (kk _ hl)) k
theorem x_lrem (pc : Nat) {x y : Int64} (hne : ¬ y = 0) (hdg : decode (yB Y) pc = .ok (.lrem, 1)) (k : xX l E Y n0 s0 rv res (pc + 1) lv (.inr (.inl (x - x / y * y)) :: st) mm) : xX l E Y n0 s0 rv res pc lv (.inr (.inl y) :: .inr (.inl x) :: st) mm :=
  x_same (fun C hH hS hl _ _ kk => lv_lrem C.1 C.2.1 hdg hne (kk _ hl)) k
theorem x_lshl (pc : Nat) {x : Int64} {y : Int32} (hdg : decode (yB Y) pc = .ok (.lshl, 1)) (k : xX l E Y n0 s0 rv res (pc + 1) lv (.inr (.inl (x <<< (y.toInt64 &&& 63))) :: st) mm) : xX l E Y n0 s0 rv res pc lv (.inl y :: .inr (.inl x) :: st) mm :=
  x_same (fun C hH hS hl _ _ kk => lv_lshl C.1 C.2.1 hdg rfl (kk _ hl)) k
theorem x_lushr (pc : Nat) {x : Int64} {y : Int32} (hdg : decode (yB Y) pc = .ok (.lushr, 1)) (k : xX l E Y n0 s0 rv res (pc + 1) lv (.inr (.inl ((x.toUInt64 >>> (y.toInt64.toUInt64 &&& Int64.toUInt64 63)).toInt64)) :: st) mm) : xX l E Y n0 s0 rv res pc lv (.inl y :: .inr (.inl x) :: st) mm :=
  x_same (fun C hH hS hl _ _ kk => lv_lushr C.1 C.2.1 hdg rfl (kk _ hl)) k
theorem x_lshr (pc : Nat) {x : Int64} {y : Int32} (hdg : decode (yB Y) pc = .ok (.lshr, 1)) (k : xX l E Y n0 s0 rv res (pc + 1) lv (.inr (.inl (x >>> (y.toInt64 &&& 63))) :: st) mm) : xX l E Y n0 s0 rv res pc lv (.inl y :: .inr (.inl x) :: st) mm :=
  x_same (fun C hH hS hl _ _ kk => lv_lshr C.1 C.2.1 hdg rfl (kk _ hl)) k
/-! the stack -/
theorem x_dup (pc : Nat) {v : gV} (hdg : decode (yB Y) pc = .ok (.dup, 1)) (hc : gc v = 1) (k : xX l E Y n0 s0 rv res (pc + 1) lv (v :: v :: st) mm) : xX l E Y n0 s0 rv res pc lv (v :: st) mm :=
  x_same (fun C hH hS hl _ _ kk => lv_dup C.1 C.2.1 hdg ((gv_cat v).trans hc) (kk _ hl)) k
theorem x_pop (pc : Nat) {v : gV} (hdg : decode (yB Y) pc = .ok (.pop, 1)) (hc : gc v = 1) (k : xX l E Y n0 s0 rv res (pc + 1) lv st mm) : xX l E Y n0 s0 rv res pc lv (v :: st) mm :=
  x_same (fun C hH hS hl _ _ kk => lv_pop C.1 C.2.1 hdg ((gv_cat v).trans hc) (kk _ hl)) k
theorem x_dup_x1 (pc : Nat) {v w : gV} (hdg : decode (yB Y) pc = .ok (.dup_x1, 1)) (hc : gc v = 1) (hd : gc w = 1) (k : xX l E Y n0 s0 rv res (pc + 1) lv (v :: w :: v :: st) mm) : xX l E Y n0 s0 rv res pc lv (v :: w :: st) mm :=
  x_same (fun C hH hS hl _ _ kk => lv_dup_x1 C.1 C.2.1 hdg ((gv_cat v).trans hc) ((gv_cat w).trans hd) (kk _ hl)) k
theorem x_dup2 (pc : Nat) {v w : gV} (hdg : decode (yB Y) pc = .ok (.dup2, 1)) (hc : gc v = 1) (hd : gc w = 1) (k : xX l E Y n0 s0 rv res (pc + 1) lv (v :: w :: v :: w :: st) mm) : xX l E Y n0 s0 rv res pc lv (v :: w :: st) mm :=
  x_same (fun C hH hS hl _ _ kk => lv_dup2_11 C.1 C.2.1 hdg ((gv_cat v).trans hc) ((gv_cat w).trans hd) (kk _ hl)) k
theorem x_goto (pc tgt : Nat) {off : Int} (hdg : decode (yB Y) pc = .ok (.goto off, 3)) (ht : (pc : Int) + off = (tgt : Int)) (k : xX l E Y n0 s0 rv res tgt lv st mm) : xX l E Y n0 s0 rv res pc lv st mm :=
  x_same (fun C hH hS hl _ _ kk => lv_goto C.1 C.2.1 hdg ht (kk _ hl)) k
theorem x_two {c : Prop} {pc pt pf : Nat} (h : ∀ {p : Program} {e : Env} {s : State} {m : MethodId} {args : Array Value} {below : List Frame} {meth : Method} {c0 : Code} {H : Heap} {locs : List Loc} {ls : Array Slot} {cells slots : Nat} {Q : State → Prop}, xC Y E p s m args meth c0 →
      (c → W p l e (gR Y n0 s0 res) s m args below meth c0 H locs cells slots Q (F0 m pt ls (st'.map gv))) → (¬ c → W p l e (gR Y n0 s0 res) s m args below meth c0 H locs cells slots Q (F0 m pf ls (st'.map gv))) → W p l e (gR Y n0 s0 res) s m args below meth c0 H locs cells slots Q (F0 m pc ls (st.map gv)))
    (kt : c → xX l E Y n0 s0 rv res pt lv st' mm) (kf : ¬ c → xX l E Y n0 s0 rv res pf lv st' mm) : xX l E Y n0 s0 rv res pc lv st mm := by
  have h0 : gLe mm res := by
    by_cases hc : c
    · exact (kt hc).1
    · exact (kf hc).1
  refine ⟨h0, ?_⟩
  intro p e s m args below meth c C hz h1 h2 H locs ls hH hS hl
  exact h C (fun hc => (kt hc).2 p e s m args below meth c C hz h1 h2 H locs ls hH hS hl) (fun hc => (kf hc).2 p e s m args below meth c C hz h1 h2 H locs ls hH hS hl)
theorem x_if_eq (pc tgt : Nat) {x : Int32} {off : Int} (hdg : decode (yB Y) pc = .ok (.ifCond .eq off, 3)) (ht : (pc : Int) + off = (tgt : Int)) (kt : x = 0 → xX l E Y n0 s0 rv res tgt lv st mm) (kf : ¬ x = 0 → xX l E Y n0 s0 rv res (pc + 3) lv st mm) : xX l E Y n0 s0 rv res pc lv (.inl x :: st) mm :=
  x_two (fun C k1 k2 => lv_if_eq C.1 C.2.1 hdg ht k1 k2) kt kf
theorem x_icmp_eq (pc tgt : Nat) {x y : Int32} {off : Int} (hdg : decode (yB Y) pc = .ok (.if_icmp .eq off, 3)) (ht : (pc : Int) + off = (tgt : Int)) (kt : x = y → xX l E Y n0 s0 rv res tgt lv st mm) (kf : ¬ x = y → xX l E Y n0 s0 rv res (pc + 3) lv st mm) : xX l E Y n0 s0 rv res pc lv (.inl y :: .inl x :: st) mm :=
  x_two (fun C k1 k2 => lv_icmp_eq C.1 C.2.1 hdg ht k1 k2) kt kf
theorem x_if_lt (pc tgt : Nat) {x : Int32} {off : Int} (hdg : decode (yB Y) pc = .ok (.ifCond .lt off, 3)) (ht : (pc : Int) + off = (tgt : Int)) (kt : x < 0 → xX l E Y n0 s0 rv res tgt lv st mm) (kf : ¬ x < 0 → xX l E Y n0 s0 rv res (pc + 3) lv st mm) : xX l E Y n0 s0 rv res pc lv (.inl x :: st) mm :=
  x_two (fun C k1 k2 => lv_if_lt C.1 C.2.1 hdg ht k1 k2) kt kf
theorem x_icmp_lt (pc tgt : Nat) {x y : Int32} {off : Int} (hdg : decode (yB Y) pc = .ok (.if_icmp .lt off, 3)) (ht : (pc : Int) + off = (tgt : Int)) (kt : x < y → xX l E Y n0 s0 rv res tgt lv st mm) (kf : ¬ x < y → xX l E Y n0 s0 rv res (pc + 3) lv st mm) : xX l E Y n0 s0 rv res pc lv (.inl y :: .inl x :: st) mm :=
  x_two (fun C k1 k2 => lv_icmp_lt C.1 C.2.1 hdg ht k1 k2) kt kf
theorem x_if_ge (pc tgt : Nat) {x : Int32} {off : Int} (hdg : decode (yB Y) pc = .ok (.ifCond .ge off, 3)) (ht : (pc : Int) + off = (tgt : Int)) (kt : 0 ≤ x → xX l E Y n0 s0 rv res tgt lv st mm) (kf : ¬ 0 ≤ x → xX l E Y n0 s0 rv res (pc + 3) lv st mm) : xX l E Y n0 s0 rv res pc lv (.inl x :: st) mm :=
  x_two (fun C k1 k2 => lv_if_ge C.1 C.2.1 hdg ht k1 k2) kt kf
theorem x_icmp_ge (pc tgt : Nat) {x y : Int32} {off : Int} (hdg : decode (yB Y) pc = .ok (.if_icmp .ge off, 3)) (ht : (pc : Int) + off = (tgt : Int)) (kt : y ≤ x → xX l E Y n0 s0 rv res tgt lv st mm) (kf : ¬ y ≤ x → xX l E Y n0 s0 rv res (pc + 3) lv st mm) : xX l E Y n0 s0 rv res pc lv (.inl y :: .inl x :: st) mm :=
  x_two (fun C k1 k2 => lv_icmp_ge C.1 C.2.1 hdg ht k1 k2) kt kf
theorem x_if_gt (pc tgt : Nat) {x : Int32} {off : Int} (hdg : decode (yB Y) pc = .ok (.ifCond .gt off, 3)) (ht : (pc : Int) + off = (tgt : Int)) (kt : 0 < x → xX l E Y n0 s0 rv res tgt lv st mm) (kf : ¬ 0 < x → xX l E Y n0 s0 rv res (pc + 3) lv st mm) : xX l E Y n0 s0 rv res pc lv (.inl x :: st) mm :=
  x_two (fun C k1 k2 => lv_if_gt C.1 C.2.1 hdg ht k1 k2) kt kf
theorem x_icmp_gt (pc tgt : Nat) {x y : Int32} {off : Int} (hdg : decode (yB Y) pc = .ok (.if_icmp .gt off, 3)) (ht : (pc : Int) + off = (tgt : Int)) (kt : y < x → xX l E Y n0 s0 rv res tgt lv st mm) (kf : ¬ y < x → xX l E Y n0 s0 rv res (pc + 3) lv st mm) : xX l E Y n0 s0 rv res pc lv (.inl y :: .inl x :: st) mm :=
  x_two (fun C k1 k2 => lv_icmp_gt C.1 C.2.1 hdg ht k1 k2) kt kf
theorem x_if_le (pc tgt : Nat) {x : Int32} {off : Int} (hdg : decode (yB Y) pc = .ok (.ifCond .le off, 3)) (ht : (pc : Int) + off = (tgt : Int)) (kt : x ≤ 0 → xX l E Y n0 s0 rv res tgt lv st mm) (kf : ¬ x ≤ 0 → xX l E Y n0 s0 rv res (pc + 3) lv st mm) : xX l E Y n0 s0 rv res pc lv (.inl x :: st) mm :=
  x_two (fun C k1 k2 => lv_if_le C.1 C.2.1 hdg ht k1 k2) kt kf
theorem x_icmp_le (pc tgt : Nat) {x y : Int32} {off : Int} (hdg : decode (yB Y) pc = .ok (.if_icmp .le off, 3)) (ht : (pc : Int) + off = (tgt : Int)) (kt : x ≤ y → xX l E Y n0 s0 rv res tgt lv st mm) (kf : ¬ x ≤ y → xX l E Y n0 s0 rv res (pc + 3) lv st mm) : xX l E Y n0 s0 rv res pc lv (.inl y :: .inl x :: st) mm :=
  x_two (fun C k1 k2 => lv_icmp_le C.1 C.2.1 hdg ht k1 k2) kt kf
theorem x_if_ne (pc tgt : Nat) {x : Int32} {off : Int} (hdg : decode (yB Y) pc = .ok (.ifCond .ne off, 3)) (ht : (pc : Int) + off = (tgt : Int)) (kf : x = 0 → xX l E Y n0 s0 rv res (pc + 3) lv st mm) (kt : ¬ x = 0 → xX l E Y n0 s0 rv res tgt lv st mm) : xX l E Y n0 s0 rv res pc lv (.inl x :: st) mm :=
  x_two (fun C k1 k2 => lv_if_ne C.1 C.2.1 hdg ht k2 k1) kf kt
theorem x_icmp_ne (pc tgt : Nat) {x y : Int32} {off : Int} (hdg : decode (yB Y) pc = .ok (.if_icmp .ne off, 3)) (ht : (pc : Int) + off = (tgt : Int)) (kf : x = y → xX l E Y n0 s0 rv res (pc + 3) lv st mm) (kt : ¬ x = y → xX l E Y n0 s0 rv res tgt lv st mm) : xX l E Y n0 s0 rv res pc lv (.inl y :: .inl x :: st) mm :=
  x_two (fun C k1 k2 => lv_icmp_ne C.1 C.2.1 hdg ht k2 k1) kf kt
theorem x_ifnull (pc tgt : Nat) {r : Option Nat} {off : Int} (hdg : decode (yB Y) pc = .ok (.ifnull off, 3)) (ht : (pc : Int) + off = (tgt : Int)) (kt : r = none → xX l E Y n0 s0 rv res tgt lv st mm) (kf : ¬ r = none → xX l E Y n0 s0 rv res (pc + 3) lv st mm) : xX l E Y n0 s0 rv res pc lv (.inr (.inr r) :: st) mm := by
  refine x_two (c := r = none) (fun C k1 k2 => ?_) kt kf
  cases r with
  | none => exact lv_ifnullN C.1 C.2.1 hdg ht (k1 rfl)
  | some a => exact lv_ifnull C.1 C.2.1 hdg (k2 (fun h => by cases h))
theorem x_ifnonnull (pc tgt : Nat) {r : Option Nat} {off : Int} (hdg : decode (yB Y) pc = .ok (.ifnonnull off, 3)) (ht : (pc : Int) + off = (tgt : Int)) (kf : r = none → xX l E Y n0 s0 rv res (pc + 3) lv st mm) (kt : ¬ r = none → xX l E Y n0 s0 rv res tgt lv st mm) : xX l E Y n0 s0 rv res pc lv (.inr (.inr r) :: st) mm := by
  refine x_two (c := r = none) (fun C k1 k2 => ?_) kf kt
  cases r with
  | none => exact lv_ifnonnullN C.1 C.2.1 hdg (k1 rfl)
  | some a => exact lv_ifnonnull C.1 C.2.1 hdg ht (k2 (fun h => by cases h))
theorem x_acmp_eq (pc tgt : Nat) {r q : Option Nat} {off : Int} (hdg : decode (yB Y) pc = .ok (.if_acmp .eq off, 3)) (ht : (pc : Int) + off = (tgt : Int)) (kt : r = q → xX l E Y n0 s0 rv res tgt lv st mm) (kf : ¬ r = q → xX l E Y n0 s0 rv res (pc + 3) lv st mm) : xX l E Y n0 s0 rv res pc lv (.inr (.inr q) :: .inr (.inr r) :: st) mm :=
  x_two (fun C k1 k2 => lv_acmp_eq C.1 C.2.1 hdg ht k1 k2) kt kf
theorem x_acmp_ne (pc tgt : Nat) {r q : Option Nat} {off : Int} (hdg : decode (yB Y) pc = .ok (.if_acmp .ne off, 3)) (ht : (pc : Int) + off = (tgt : Int)) (kf : r = q → xX l E Y n0 s0 rv res (pc + 3) lv st mm) (kt : ¬ r = q → xX l E Y n0 s0 rv res tgt lv st mm) : xX l E Y n0 s0 rv res pc lv (.inr (.inr q) :: .inr (.inr r) :: st) mm :=
  x_two (fun C k1 k2 => lv_acmp_ne C.1 C.2.1 hdg ht k2 k1) kf kt
theorem g_cmp_eq (x y : Int64) : (lg_cmp x y = 0) ↔ x = y := by
  unfold lg_cmp
  by_cases h1 : x > y
  · rw [if_pos h1]
    constructor
    · intro h; exact absurd h (by decide)
    · intro h; subst h; exact absurd h1 (by simp)
  · rw [if_neg h1]
    by_cases h2 : x = y
    · rw [if_pos h2]; exact ⟨fun _ => h2, fun _ => rfl⟩
    · rw [if_neg h2]
      constructor
      · intro h; exact absurd h (by decide)
      · intro h; exact absurd h h2
theorem g_cmp_lt (x y : Int64) : (lg_cmp x y < 0) ↔ x < y := by
  have h := lg_cmp_ge x y
  rw [← Int32.not_le, ← Int64.not_le, h]
theorem g_cmp_gt (x y : Int64) : (0 < lg_cmp x y) ↔ y < x := by
  have h := lg_cmp_le x y
  rw [← Int32.not_le, ← Int64.not_le, h]
theorem x_lcmp (pc : Nat) {x y : Int64} (hdg : decode (yB Y) pc = .ok (.lcmp, 1)) (k : xX l E Y n0 s0 rv res (pc + 1) lv (.inl (lg_cmp x y) :: st) mm) : xX l E Y n0 s0 rv res pc lv (.inr (.inl y) :: .inr (.inl x) :: st) mm :=
  x_same (fun C hH hS hl _ _ kk => W.lcmp C.1 C.2.1 hdg (kk _ hl)) k
theorem x_lc_eq (pc tgt : Nat) {x y : Int64} {off : Int} (hdg : decode (yB Y) pc = .ok (.lcmp, 1)) (hdg2 : decode (yB Y) (pc + 1) = .ok (.ifCond .eq off, 3)) (ht : ((pc + 1 : Nat) : Int) + off = (tgt : Int)) (kt : x = y → xX l E Y n0 s0 rv res tgt lv st mm) (kf : ¬ x = y → xX l E Y n0 s0 rv res (pc + 4) lv st mm) : xX l E Y n0 s0 rv res pc lv (.inr (.inl y) :: .inr (.inl x) :: st) mm :=
  x_lcmp pc hdg (x_if_eq (pc + 1) tgt hdg2 ht (fun h => kt ((g_cmp_eq x y).mp h)) (fun h => kf (fun z => h ((g_cmp_eq x y).mpr z))))
theorem x_lc_lt (pc tgt : Nat) {x y : Int64} {off : Int} (hdg : decode (yB Y) pc = .ok (.lcmp, 1)) (hdg2 : decode (yB Y) (pc + 1) = .ok (.ifCond .lt off, 3)) (ht : ((pc + 1 : Nat) : Int) + off = (tgt : Int)) (kt : x < y → xX l E Y n0 s0 rv res tgt lv st mm) (kf : ¬ x < y → xX l E Y n0 s0 rv res (pc + 4) lv st mm) : xX l E Y n0 s0 rv res pc lv (.inr (.inl y) :: .inr (.inl x) :: st) mm :=
  x_lcmp pc hdg (x_if_lt (pc + 1) tgt hdg2 ht (fun h => kt ((g_cmp_lt x y).mp h)) (fun h => kf (fun z => h ((g_cmp_lt x y).mpr z))))
theorem x_lc_ge (pc tgt : Nat) {x y : Int64} {off : Int} (hdg : decode (yB Y) pc = .ok (.lcmp, 1)) (hdg2 : decode (yB Y) (pc + 1) = .ok (.ifCond .ge off, 3)) (ht : ((pc + 1 : Nat) : Int) + off = (tgt : Int)) (kt : y ≤ x → xX l E Y n0 s0 rv res tgt lv st mm) (kf : ¬ y ≤ x → xX l E Y n0 s0 rv res (pc + 4) lv st mm) : xX l E Y n0 s0 rv res pc lv (.inr (.inl y) :: .inr (.inl x) :: st) mm :=
  x_lcmp pc hdg (x_if_ge (pc + 1) tgt hdg2 ht (fun h => kt ((lg_cmp_ge x y).mp h)) (fun h => kf (fun z => h ((lg_cmp_ge x y).mpr z))))
theorem x_lc_gt (pc tgt : Nat) {x y : Int64} {off : Int} (hdg : decode (yB Y) pc = .ok (.lcmp, 1)) (hdg2 : decode (yB Y) (pc + 1) = .ok (.ifCond .gt off, 3)) (ht : ((pc + 1 : Nat) : Int) + off = (tgt : Int)) (kt : y < x → xX l E Y n0 s0 rv res tgt lv st mm) (kf : ¬ y < x → xX l E Y n0 s0 rv res (pc + 4) lv st mm) : xX l E Y n0 s0 rv res pc lv (.inr (.inl y) :: .inr (.inl x) :: st) mm :=
  x_lcmp pc hdg (x_if_gt (pc + 1) tgt hdg2 ht (fun h => kt ((g_cmp_gt x y).mp h)) (fun h => kf (fun z => h ((g_cmp_gt x y).mpr z))))
theorem x_lc_le (pc tgt : Nat) {x y : Int64} {off : Int} (hdg : decode (yB Y) pc = .ok (.lcmp, 1)) (hdg2 : decode (yB Y) (pc + 1) = .ok (.ifCond .le off, 3)) (ht : ((pc + 1 : Nat) : Int) + off = (tgt : Int)) (kt : x ≤ y → xX l E Y n0 s0 rv res tgt lv st mm) (kf : ¬ x ≤ y → xX l E Y n0 s0 rv res (pc + 4) lv st mm) : xX l E Y n0 s0 rv res pc lv (.inr (.inl y) :: .inr (.inl x) :: st) mm :=
  x_lcmp pc hdg (x_if_le (pc + 1) tgt hdg2 ht (fun h => kt ((lg_cmp_le x y).mp h)) (fun h => kf (fun z => h ((lg_cmp_le x y).mpr z))))
theorem x_lc_ne (pc tgt : Nat) {x y : Int64} {off : Int} (hdg : decode (yB Y) pc = .ok (.lcmp, 1)) (hdg2 : decode (yB Y) (pc + 1) = .ok (.ifCond .ne off, 3)) (ht : ((pc + 1 : Nat) : Int) + off = (tgt : Int)) (kf : x = y → xX l E Y n0 s0 rv res (pc + 4) lv st mm) (kt : ¬ x = y → xX l E Y n0 s0 rv res tgt lv st mm) : xX l E Y n0 s0 rv res pc lv (.inr (.inl y) :: .inr (.inl x) :: st) mm :=
  x_lcmp pc hdg (x_if_ne (pc + 1) tgt hdg2 ht (fun h => kf ((g_cmp_eq x y).mp h)) (fun h => kt (fun z => h ((g_cmp_eq x y).mpr z))))
/-! answers -/
theorem x_end {pc : Nat} (h : ∀ {p : Program} {e : Env} {s : State} {m : MethodId} {args : Array Value} {below : List Frame} {meth : Method} {c : Code} {H : Heap} {locs : List Loc} {ls : Array Slot} {cells slots : Nat}, xC Y E p s m args meth c → (∀ t : State, t.heap = H → s.WarmedH t.vm → gQ E rv mm args s (.returned rv) t) → (∀ q ∈ locs, gA E q.base) →
      W p l e (gR Y n0 s0 mm) s m args below meth c H locs cells slots (MQ below (gQ E rv mm) args s cells slots (gA E)) (F0 m pc ls (st.map gv))) : xX l E Y n0 s0 rv mm pc lv st mm := by
  refine ⟨⟨Nat.le_refl _, Nat.le_refl _⟩, ?_⟩
  intro p e s m args below meth c C hz h1 h2 H locs ls hH hS hl
  exact h C (fun t ht _ => ⟨rfl, by rw [ht]; exact hH, hS.F ht⟩) hS.2.2
theorem x_ireturn (pc : Nat) {v : Int32} (hr : yR Y = some .int) (hdg : decode (yB Y) pc = .ok (.ireturn, 1)) : xX l E Y n0 s0 (some (.int v)) mm pc lv [.inl v] mm :=
  x_end (fun C hq hf => W.iret C.1 C.2.1 (C.2.2.1.trans hr) hq hf hdg (hlocks := C.2.2.2.2.2.2.1))
theorem g_z {v : Int32} (h : v = 0 ∨ v = 1) : narrow .boolean (.int v) = .int v := by
  rcases h with rfl | rfl <;> decide +kernel
theorem x_zreturn (pc : Nat) {v : Int32} (hv : v = 0 ∨ v = 1) (hr : yR Y = some .boolean) (hdg : decode (yB Y) pc = .ok (.ireturn, 1)) : xX l E Y n0 s0 (some (.int v)) mm pc lv [.inl v] mm :=
  x_end (fun C hq hf => W.zret C.1 C.2.1 (C.2.2.1.trans hr) (g_z hv) hq hf hdg (hlocks := C.2.2.2.2.2.2.1))
theorem x_lreturn (pc : Nat) {v : Int64} (hr : yR Y = some .long) (hdg : decode (yB Y) pc = .ok (.lreturn, 1)) : xX l E Y n0 s0 (some (.long v)) mm pc lv [.inr (.inl v)] mm :=
  x_end (fun C hq hf => W.lret C.1 C.2.1 (C.2.2.1.trans hr) hq hf hdg (hlocks := C.2.2.2.2.2.2.1))
theorem x_areturn (pc : Nat) {r : Option Nat} {rt : FieldType} (hr : yR Y = some rt) (hrt : (∃ n, rt = .object n) ∨ ∃ t, rt = .array t) (hdg : decode (yB Y) pc = .ok (.areturn, 1)) : xX l E Y n0 s0 (some (va_rf r)) mm pc lv [.inr (.inr r)] mm :=
  x_end (fun C hq hf => W.aret C.1 C.2.1 (C.2.2.1.trans hr) hrt (va_rf_or r) hq hf hdg (hlocks := C.2.2.2.2.2.2.1))
theorem x_return (pc : Nat) (hr : yR Y = none) (hdg : decode (yB Y) pc = .ok (.return_, 1)) : xX l E Y n0 s0 none mm pc lv [] mm :=
  x_end (fun C hq hf => W.vret C.1 C.2.1 (C.2.2.1.trans hr) hq hf hdg (hlocks := C.2.2.2.2.2.2.1))
end GX
end
section
/-! the memory's own functions, and the rows that use them -/
theorem g_one {D : va_G} {cl : List vw_C} {q : Nat × va_E} {H : Heap} (h : va_at D cl q H) : va_P D cl [q] H := by
  intro k x hx
  have hz : k < 1 := (List.getElem?_eq_some_iff.mp hx).1
  rw [show k = 0 by omega] at hx
  cases hx
  exact h
def gLet {α β : Type} (x : α) (f : α → Option β) : Option β := f x
theorem gLet_elim {α β : Type} {x : α} {f : α → Option β} {z : β} (h : gLet x f = some z) : ∃ y, y = x ∧ f y = some z := ⟨x, rfl, h⟩
def gb1 {α β : Type} (o : Option α) (f : α → Option β) : Option β := match o with
  | none => none
  | some x => f x
theorem gb1_elim {α β : Type} {o : Option α} {f : α → Option β} {z : β} (h : gb1 o f = some z) : ∃ x, o = some x ∧ f x = some z := by
  cases o with
  | none => cases h
  | some x => exact ⟨x, rfl, h⟩
theorem gb1_some {α β : Type} (x : α) (f : α → Option β) : gb1 (some x) f = f x := rfl
def gb2 {α β γ : Type} (o : Option (α × β)) (f : α → β → Option γ) : Option γ := match o with
  | none => none
  | some q => f q.1 q.2
theorem gb2_elim {α β γ : Type} {o : Option (α × β)} {f : α → β → Option γ} {z : γ} (h : gb2 o f = some z) : ∃ x y, o = some (x, y) ∧ f x y = some z := by
  cases o with
  | none => cases h
  | some q => exact ⟨q.1, q.2, rfl, h⟩
theorem gb2_some {α β γ : Type} (x : α) (y : β) (f : α → β → Option γ) : gb2 (some (x, y)) f = f x y := rfl
/-- a test that must hold -/
def gIf {α : Type} (c : Prop) [Decidable c] (o : Option α) : Option α := if c then o else none
theorem gIf_elim {α : Type} {c : Prop} [Decidable c] {o : Option α} {z : α} (h : gIf c o = some z) : c ∧ o = some z := by
  unfold gIf at h
  by_cases hc : c
  · rw [if_pos hc] at h; exact ⟨hc, h⟩
  · rw [if_neg hc] at h; cases h
theorem gIf_pos {α : Type} {c : Prop} [Decidable c] {o : Option α} (h : c) : gIf c o = o := if_pos h
theorem gif_t {α : Type} {c : Prop} [Decidable c] {a b : Option α} {z : α} (h : (if c then a else b) = some z) (hc : c) : a = some z := by
  rw [if_pos hc] at h
  exact h
theorem gif_f {α : Type} {c : Prop} [Decidable c] {a b : Option α} {z : α} (h : (if c then a else b) = some z) (hc : ¬ c) : b = some z := by
  rw [if_neg hc] at h
  exact h
/-- as many turns as no loop here needs -/
def gF : Nat := 1000000
/-- a receiver of a class of ours -/
def grc (ci : Nat) (r : Option Nat) (mm : gM) : Option Nat := match r with
  | none => none
  | some a => match mm.1 a with
    | some (.inr o) => if o.1 = ci then some a else none
    | _ => none
theorem grc_spec {ci : Nat} {r : Option Nat} {mm : gM} {b : Nat} (h : grc ci r mm = some b) : r = some b ∧ ∃ fs : List Value, mm.1 b = some (.inr (ci, fs)) := by
  unfold grc at h
  cases r with
  | none => cases h
  | some a =>
    dsimp only at h
    cases hm : mm.1 a with
    | none => rw [hm] at h; cases h
    | some e =>
      rw [hm] at h
      cases e with
      | inl x => cases h
      | inr o =>
        obtain ⟨c, fs⟩ := o
        dsimp only at h
        by_cases hc : c = ci
        · rw [if_pos hc] at h
          cases h
          subst hc
          exact ⟨rfl, fs, hm⟩
        · rw [if_neg hc] at h; cases h
/-- fields -/
def gfV (ci k : Nat) (r : Option Nat) (mm : gM) : Option Value := match r with
  | none => none
  | some a => match mm.1 a with
    | some (.inr o) => if o.1 = ci then o.2[k]? else none
    | _ => none
theorem gfV_spec {ci k : Nat} {r : Option Nat} {mm : gM} {v : Value} (h : gfV ci k r mm = some v) : ∃ (a : Nat) (fs : List Value), r = some a ∧ mm.1 a = some (.inr (ci, fs)) ∧ fs[k]? = some v := by
  unfold gfV at h
  cases r with
  | none => cases h
  | some a =>
    dsimp only at h
    cases hm : mm.1 a with
    | none => rw [hm] at h; cases h
    | some e =>
      rw [hm] at h
      cases e with
      | inl x => cases h
      | inr o =>
        obtain ⟨c, fs⟩ := o
        dsimp only at h
        by_cases hc : c = ci
        · rw [if_pos hc] at h
          subst hc
          exact ⟨a, fs, rfl, hm, h⟩
        · rw [if_neg hc] at h; cases h
def gfI (ci k : Nat) (r : Option Nat) (mm : gM) : Option Int32 := match gfV ci k r mm with
  | some (.int v) => some v
  | _ => none
def gfL (ci k : Nat) (r : Option Nat) (mm : gM) : Option Int64 := match gfV ci k r mm with
  | some (.long v) => some v
  | _ => none
def gfR (ci k : Nat) (r : Option Nat) (mm : gM) : Option (Option Nat) := match gfV ci k r mm with
  | some (.ref v) => some (some v)
  | some .null => some none
  | _ => none
theorem gfI_V {ci k : Nat} {r : Option Nat} {mm : gM} {v : Int32} (h : gfI ci k r mm = some v) : gfV ci k r mm = some (.int v) := by
  unfold gfI at h
  split at h
  · next hv => cases h; exact hv
  · cases h
theorem gfL_V {ci k : Nat} {r : Option Nat} {mm : gM} {v : Int64} (h : gfL ci k r mm = some v) : gfV ci k r mm = some (.long v) := by
  unfold gfL at h
  split at h
  · next hv => cases h; exact hv
  · cases h
theorem gfR_V {ci k : Nat} {r : Option Nat} {mm : gM} {v : Option Nat} (h : gfR ci k r mm = some v) : gfV ci k r mm = some (va_rf v) := by
  unfold gfR at h
  split at h
  · next hv => cases h; exact hv
  · next hv => cases h; exact hv
  · cases h
def gpV (ci k : Nat) (r : Option Nat) (v : Value) (mm : gM) : Option gM := match r with
  | none => none
  | some a => match mm.1 a with
    | some (.inr o) => if o.1 = ci ∧ k < o.2.length then some (gU mm a (.inr (ci, o.2.set k v))) else none
    | _ => none
theorem gpV_spec {ci k : Nat} {r : Option Nat} {mm mm1 : gM} {v : Value} (h : gpV ci k r v mm = some mm1) : ∃ (a : Nat) (fs : List Value), r = some a ∧ mm.1 a = some (.inr (ci, fs)) ∧ k < fs.length ∧ mm1 = gU mm a (.inr (ci, fs.set k v)) := by
  unfold gpV at h
  cases r with
  | none => cases h
  | some a =>
    dsimp only at h
    cases hm : mm.1 a with
    | none => rw [hm] at h; cases h
    | some e =>
      rw [hm] at h
      cases e with
      | inl x => cases h
      | inr o =>
        obtain ⟨c, fs⟩ := o
        dsimp only at h
        by_cases hc : c = ci ∧ k < fs.length
        · rw [if_pos hc] at h
          obtain ⟨rfl, hk⟩ := hc
          cases h
          exact ⟨a, fs, rfl, hm, hk, rfl⟩
        · rw [if_neg hc] at h; cases h
def gCls (ci : Nat) (C : String) (T : u_T) (N : Nat) : Prop := gCl[ci]? = some (C, T, N) ∧ (∀ w ∈ u_ws C T N, w ∈ gT) ∧ (∃ ty0 : Nat → FieldType, ∀ k, k < N → parseFieldDescriptor (T k).2.2.1 = some (ty0 k)) ∧ ∀ a, a < N → ∀ b, b < N → a ≠ b → (T a).2.1 ≠ (T b).2.1
def gFld (own : String) (idx ci k : Nat) (ty : FieldType) (fin : Bool) : Prop := ∃ (C : String) (T : u_T) (N : Nat) (ref : String), gCls ci C T N ∧ k < N ∧ parseFieldDescriptor (T k).2.2.1 = some ty ∧ (T k).2.2.2 = fin ∧ (fin = true → (T k).1 = own ∧ ref = own ∧ Cond.fieldLink own idx ref (T k).2.1 (T k).2.2.1 ∈ gT) ∧ (ref = (T k).1 ∨ Cond.sameField ref (T k).1 (T k).2.1 (T k).2.2.1 ∈ gT) ∧
  (Cond.fieldLink own idx ref (T k).2.1 (T k).2.2.1 ∈ gT ∨ ∃ host, (own, idx, ref, (T k).2.1, (T k).2.2.1, host) ∈ gNF)
section GX2
variable {l : Launch} {E : gD} {Y : gY} {n0 s0 : Nat} {rv : Option Value} {res mm mm1 : gM} {lv lv' : List (Nat × gV)} {st st' : List gV}
theorem x_getV (pc : Nat) {idx ci k : Nat} {ty : FieldType} {fin : Bool} {r : Option Nat} {vv : gV} (w : gFld (yO Y) idx ci k ty fin) (hv : gfV ci k r mm = some (gv vv)) (hdg : decode (yB Y) pc = .ok (.getfield idx, 3)) (kk : xX l E Y n0 s0 rv res (pc + 3) lv (vv :: st) mm) : xX l E Y n0 s0 rv res pc lv (.inr (.inr r) :: st) mm := by
  obtain ⟨a, fs, rfl, hm, hfs⟩ := gfV_spec hv
  obtain ⟨C, T, N, ref, ⟨hc, hin, -, -⟩, hk, -, -, -, hsm, hlk⟩ := w
  refine x_same (fun {p e s m args below meth c H locs ls cells slots Q} Cx hH hS hl _ _ kk => ?_) kk
  obtain ⟨hx, hb, hr, hml, hown, hts, hlocks, hname, hK⟩ := Cx
  have hP : va_P E.1 gCl [(a, .inr (ci, fs))] H := g_one (hH.2 a _ hm).2
  have hsame : ∀ x, s.fieldFound? (T k).1 (T k).2.1 (T k).2.2.1 = some x → s.fieldFound? ref (T k).2.1 (T k).2.2.1 = some x := by
    rcases hsm with rfl | hsm
    · exact fun _ h => h
    · exact fun x h => u_same (hts _ (List.mem_cons_of_mem _ hsm)) x h
  rcases hlk with hlk | ⟨host, hlk⟩
  · exact va_get (D := E.1) (ci := ci) (C := C) (T := T) (N := N) (v := gv vv) (ws := [(a, .inr (ci, fs))]) hx hb hts (fun w h => List.mem_cons_of_mem _ (hin w h)) hown hK.1 hP 0 rfl hc k hk (hts _ (List.mem_cons_of_mem _ hlk)) hsame hfs hdg (kk _ hl)
  · exact va_getN (D := E.1) (ci := ci) (C := C) (T := T) (N := N) (v := gv vv) (ws := [(a, .inr (ci, fs))]) hx hb hts (fun w h => List.mem_cons_of_mem _ (hin w h)) hown hK.1 hP 0 rfl hc k hk (va_Nw.use rfl (hK.2.2.1 _ hlk)) hsame hfs hdg (kk _ hl)
theorem x_getI (pc : Nat) {idx ci k : Nat} {ty : FieldType} {fin : Bool} {r : Option Nat} {v : Int32} (hv : gfI ci k r mm = some v) (w : gFld (yO Y) idx ci k ty fin) (hdg : decode (yB Y) pc = .ok (.getfield idx, 3)) (kk : xX l E Y n0 s0 rv res (pc + 3) lv (.inl v :: st) mm) : xX l E Y n0 s0 rv res pc lv (.inr (.inr r) :: st) mm := x_getV pc w (vv := .inl v) (gfI_V hv) hdg kk
theorem x_getL (pc : Nat) {idx ci k : Nat} {ty : FieldType} {fin : Bool} {r : Option Nat} {v : Int64} (hv : gfL ci k r mm = some v) (w : gFld (yO Y) idx ci k ty fin) (hdg : decode (yB Y) pc = .ok (.getfield idx, 3)) (kk : xX l E Y n0 s0 rv res (pc + 3) lv (.inr (.inl v) :: st) mm) : xX l E Y n0 s0 rv res pc lv (.inr (.inr r) :: st) mm := x_getV pc w (vv := .inr (.inl v)) (gfL_V hv) hdg kk
theorem x_getR (pc : Nat) {idx ci k : Nat} {ty : FieldType} {fin : Bool} {r v : Option Nat} (hv : gfR ci k r mm = some v) (w : gFld (yO Y) idx ci k ty fin) (hdg : decode (yB Y) pc = .ok (.getfield idx, 3)) (kk : xX l E Y n0 s0 rv res (pc + 3) lv (.inr (.inr v) :: st) mm) : xX l E Y n0 s0 rv res pc lv (.inr (.inr r) :: st) mm := x_getV pc w (vv := .inr (.inr v)) (gfR_V hv) hdg kk
theorem x_putV (pc : Nat) {idx ci k : Nat} {ty : FieldType} {r : Option Nat} {vv : gV} (w : gFld (yO Y) idx ci k ty false) (hn : narrow ty (gv vv) = gv vv) (hfit : fits ty (gv vv) = true) (hv : gpV ci k r (gv vv) mm = some mm1) (hdg : decode (yB Y) pc = .ok (.putfield idx, 3)) (kk : xX l E Y n0 s0 rv res (pc + 3) lv st mm1) : xX l E Y n0 s0 rv res pc lv (vv :: .inr (.inr r) :: st) mm := by
  obtain ⟨a, fs, rfl, hm, hkl, rfl⟩ := gpV_spec hv
  obtain ⟨C, T, N, ref, ⟨hc, hin, ⟨ty0, hty⟩, hnm⟩, hk, hd, hfin, -, hsm, hlk⟩ := w
  refine x_write (mm1 := gU mm a _) rfl (fun {p e s m args below meth c H locs ls cells slots Q} Cx hH hS hl _ _ kk => ?_) kk
  obtain ⟨hx, hb, hr, hml, hown, hts0, hlocks, hname, hK⟩ := Cx
  have hts : ∀ w ∈ gT, w.before args s = true := fun w h => hts0 w (List.mem_cons_of_mem _ h)
  have hsame : ∀ x, s.fieldFound? (T k).1 (T k).2.1 (T k).2.2.1 = some x → s.fieldFound? ref (T k).2.1 (T k).2.2.1 = some x := by
    rcases hsm with rfl | hsm
    · exact fun _ h => h
    · exact fun x h => u_same (hts _ hsm) x h
  have hap := va_apart (own := yO Y) hts hin ty0 hty hnm hK.1 hc
  obtain ⟨hgA, r0, h1, cell, q1, q2, q3, q4⟩ := hH.2 a _ hm
  have hr0 : r0 = (C, T, N) := Option.some.inj (h1.symm.trans hc)
  subst hr0
  obtain ⟨hSl, hfc, kC, hkC, hkind⟩ := hK.1.1 ci _ hc
  obtain ⟨cf, kf, fi, f, hi, hsl⟩ := hSl k hk
  have hlay := hts _ (hin _ (u_in_lay hk))
  unfold u_lay at hlay
  rw [if_neg (by rw [hfin]; decide)] at hlay
  have hst := (u_facts hfc hkC (u_lays hts hin hk) hi).1
  have h6 := u_store hfc hkC hkind hlay hi hd hn hfit
  rcases hlk with hlk | ⟨host, hlk⟩
  · refine W.putK hx hb (f := f) ⟨hown, hts _ hlk, ⟨_, _, _, hsame _ hi⟩, hst⟩ (by rw [q2]; exact h6) q1 q3 (by rw [hsl]; exact k2_hasslot (q4 k hk)) rfl rfl hdg fun H' e1 e2 e3 => ?_
    rw [hsl] at e1 ⊢
    exact kk H' _ (hH.put ⟨hgA, _, hc, t_OB.to (V := updV (vp_V fs) k (gv vv)) ⟨_, e1, q2, q3, t_set q4 hap hk (gv vv)⟩ (fun j _ => vp_updV_set hkl (gv vv) j)⟩ e2 e3) (hS.put e2 e3 hgA)
  · refine va_WputK hx hb (f := f) hown (va_Nw.use rfl (hK.2.2.1 _ hlk)) (hsame _ hi) hst (by rw [q2]; exact h6) q1 q3 (by rw [hsl]; exact k2_hasslot (q4 k hk)) rfl rfl hdg fun H' e1 e2 e3 => ?_
    rw [hsl] at e1 ⊢
    exact kk H' _ (hH.put ⟨hgA, _, hc, t_OB.to (V := updV (vp_V fs) k (gv vv)) ⟨_, e1, q2, q3, t_set q4 hap hk (gv vv)⟩ (fun j _ => vp_updV_set hkl (gv vv) j)⟩ e2 e3) (hS.put e2 e3 hgA)
theorem x_putF (pc : Nat) {idx ci k : Nat} {ty : FieldType} {r : Option Nat} {vv : gV} (w : gFld (yO Y) idx ci k ty true) (hinit : yN Y = "<init>") (hn : narrow ty (gv vv) = gv vv) (hfit : fits ty (gv vv) = true) (hv : gpV ci k r (gv vv) mm = some mm1) (hdg : decode (yB Y) pc = .ok (.putfield idx, 3)) (kk : xX l E Y n0 s0 rv res (pc + 3) lv st mm1) : xX l E Y n0 s0 rv res pc lv (vv :: .inr (.inr r) :: st) mm := by
  obtain ⟨a, fs, rfl, hm, hkl, rfl⟩ := gpV_spec hv
  obtain ⟨C, T, N, ref, ⟨hc, hin, ⟨ty0, hty⟩, hnm⟩, hk, hd, hfin, hf2, -, -⟩ := w
  obtain ⟨hdecl, href, hlk⟩ := hf2 rfl
  refine x_write (mm1 := gU mm a _) rfl (fun {p e s m args below meth c H locs ls cells slots Q} Cx hH hS hl _ _ kk => ?_) kk
  obtain ⟨hx, hb, hr, hml, hown, hts0, hlocks, hname, hK⟩ := Cx
  have hts : ∀ w ∈ gT, w.before args s = true := fun w h => hts0 w (List.mem_cons_of_mem _ h)
  have hap := va_apart (own := yO Y) hts hin ty0 hty hnm hK.1 hc
  obtain ⟨hgA, r0, h1, cell, q1, q2, q3, q4⟩ := hH.2 a _ hm
  have hr0 : r0 = (C, T, N) := Option.some.inj (h1.symm.trans hc)
  subst hr0
  obtain ⟨hSl, hfc, kC, hkC, hkind⟩ := hK.1.1 ci _ hc
  obtain ⟨cf, kf, fi, f, hi, hsl⟩ := hSl k hk
  have hlay := hts _ (hin _ (u_in_lay hk))
  unfold u_lay at hlay
  rw [if_pos hfin] at hlay
  have hst := (u_facts hfc hkC (u_lays hts hin hk) hi).1
  have hcf : m.cls = cf := by
    obtain ⟨_, _, c', _, _, _, -, -, hf', -, -, -, hown2, -⟩ := Cond.laysFinal_spec hlay
    have e1 : c' = cf := by have := hi.symm.trans hf'; simp at this; exact this.1.symm
    rw [hdecl] at hown2
    rw [← e1]; exact Option.some.inj (hown.symm.trans hown2)
  have h6 := u_fits hfc hkC hkind (Or.inr hlay) hi hd hn hfit
  have hi2 : s.fieldFound? ref (T k).2.1 (T k).2.2.1 = some (cf, kf, fi, f) := by rw [href, ← hdecl]; exact hi
  refine W.putFinK hx hb hown (hts _ hlk) hi2 hst hcf (hname.trans hinit) (by rw [q2]; exact h6) q1 q3 (by rw [hsl]; exact k2_hasslot (q4 k hk)) rfl rfl hdg fun H' e1 e2 e3 => ?_
  rw [hsl] at e1 ⊢
  exact kk H' _ (hH.put ⟨hgA, _, hc, t_OB.to (V := updV (vp_V fs) k (gv vv)) ⟨_, e1, q2, q3, t_set q4 hap hk (gv vv)⟩ (fun j _ => vp_updV_set hkl (gv vv) j)⟩ e2 e3) (hS.put e2 e3 hgA)
end GX2
theorem g_nI (x : Int32) : narrow .int (gv (.inl x)) = gv (.inl x) := rfl
theorem g_nL (x : Int64) : narrow .long (gv (.inr (.inl x))) = gv (.inr (.inl x)) := rfl
theorem g_nR (C : String) (r : Option Nat) : narrow (.object C) (gv (.inr (.inr r))) = gv (.inr (.inr r)) := by cases r <;> rfl
theorem g_nA (t : FieldType) (r : Option Nat) : narrow (.array t) (gv (.inr (.inr r))) = gv (.inr (.inr r)) := by cases r <;> rfl
theorem g_fR (C : String) (r : Option Nat) : fits (.object C) (gv (.inr (.inr r))) = true := by cases r <;> rfl
theorem g_fA (t : FieldType) (r : Option Nat) : fits (.array t) (gv (.inr (.inr r))) = true := by cases r <;> rfl
theorem g_nZ {x : Int32} (h : x = 0 ∨ x = 1) : narrow .boolean (gv (.inl x)) = gv (.inl x) := g_z h
theorem g_fZ {x : Int32} (h : x = 0 ∨ x = 1) : fits .boolean (gv (.inl x)) = true := by
  rcases h with rfl | rfl <;> decide +kernel
/-! arrays -/
def gar (r : Option Nat) (mm : gM) : Option (Nat × vp_A) := match r with
  | none => none
  | some a => match mm.1 a with
    | some (.inl x) => some x
    | _ => none
theorem gar_spec {r : Option Nat} {mm : gM} {x : Nat × vp_A} (h : gar r mm = some x) : ∃ a : Nat, r = some a ∧ mm.1 a = some (.inl x) := by
  unfold gar at h
  cases r with
  | none => cases h
  | some a =>
    dsimp only at h
    cases hm : mm.1 a with
    | none => rw [hm] at h; cases h
    | some e =>
      rw [hm] at h
      cases e with
      | inl y => cases h; exact ⟨a, rfl, hm⟩
      | inr o => cases h
/-- a length; the empty array that lists begin with lies outside the memory -/
def glen (r : Option Nat) (mm : gM) : Option Int32 := match gar r mm with
  | none => if r = some (mm.2.2.2.1 0) then some 0 else if r = some (mm.2.2.2.1 2) then some (Int32.ofNat mm.2.2.2.2.1) else none
  | some x => some (Int32.ofNat x.2.1)
def gaI (t : Nat) (r : Option Nat) (i : Int32) (mm : gM) : Option Int32 := match gar r mm with
  | some (t', n, .inl f) => if t' % 100 = t ∧ ¬ (i < 0 ∨ n ≤ i.toNatClampNeg) then some (f i.toNatClampNeg) else none
  | _ => if t = 0 ∧ r = some (mm.2.2.2.1 2) ∧ ¬ (i < 0 ∨ mm.2.2.2.2.1 ≤ i.toNatClampNeg) then some (mm.2.2.2.2.2 i.toNatClampNeg) else none
theorem gaI_spec {t : Nat} {r : Option Nat} {i v : Int32} {mm : gM} (h : gaI t r i mm = some v) : (∃ (a t' n : Nat) (f : Nat → Int32), r = some a ∧ mm.1 a = some (.inl (t', n, .inl f)) ∧ t' % 100 = t ∧ vp_in i n ∧ v = f i.toNatClampNeg) ∨ (t = 0 ∧ r = some (mm.2.2.2.1 2) ∧ vp_in i mm.2.2.2.2.1 ∧ v = mm.2.2.2.2.2 i.toNatClampNeg) := by
  unfold gaI at h
  split at h
  · next t' n f hg =>
    obtain ⟨a, rfl, hm⟩ := gar_spec hg
    by_cases hc : t' % 100 = t ∧ ¬ (i < 0 ∨ n ≤ i.toNatClampNeg)
    · rw [if_pos hc] at h; cases h
      exact Or.inl ⟨a, t', n, f, rfl, hm, hc.1, hc.2, rfl⟩
    · rw [if_neg hc] at h; cases h
  · by_cases hc : t = 0 ∧ r = some (mm.2.2.2.1 2) ∧ ¬ (i < 0 ∨ mm.2.2.2.2.1 ≤ i.toNatClampNeg)
    · rw [if_pos hc] at h; cases h
      exact Or.inr ⟨hc.1, hc.2.1, hc.2.2, rfl⟩
    · rw [if_neg hc] at h; cases h
def gaL (t : Nat) (r : Option Nat) (i : Int32) (mm : gM) : Option Int64 := match gar r mm with
  | some (t', n, .inr (.inl f)) => if t' % 100 = t ∧ ¬ (i < 0 ∨ n ≤ i.toNatClampNeg) then some (f i.toNatClampNeg) else none
  | _ => none
theorem gaL_spec {t : Nat} {r : Option Nat} {i : Int32} {v : Int64} {mm : gM} (h : gaL t r i mm = some v) : ∃ (a t' n : Nat) (f : Nat → Int64), r = some a ∧ mm.1 a = some (.inl (t', n, .inr (.inl f))) ∧ t' % 100 = t ∧ vp_in i n ∧ v = f i.toNatClampNeg := by
  unfold gaL at h
  split at h
  · next t' n f hg =>
    obtain ⟨a, rfl, hm⟩ := gar_spec hg
    by_cases hc : t' % 100 = t ∧ ¬ (i < 0 ∨ n ≤ i.toNatClampNeg)
    · rw [if_pos hc] at h; cases h
      exact ⟨a, t', n, f, rfl, hm, hc.1, hc.2, rfl⟩
    · rw [if_neg hc] at h; cases h
  · cases h
def gaR (t : Nat) (r : Option Nat) (i : Int32) (mm : gM) : Option (Option Nat) := match gar r mm with
  | some (t', n, .inr (.inr (.inr (.inr f)))) => if t' % 100 = t ∧ ¬ (i < 0 ∨ n ≤ i.toNatClampNeg) then some (f i.toNatClampNeg) else none
  | _ => none
theorem gaR_spec {t : Nat} {r : Option Nat} {i : Int32} {v : Option Nat} {mm : gM} (h : gaR t r i mm = some v) : ∃ (a t' n : Nat) (f : Nat → Option Nat), r = some a ∧ mm.1 a = some (.inl (t', n, .inr (.inr (.inr (.inr f))))) ∧ t' % 100 = t ∧ vp_in i n ∧ v = f i.toNatClampNeg := by
  unfold gaR at h
  split at h
  · next t' n f hg =>
    obtain ⟨a, rfl, hm⟩ := gar_spec hg
    by_cases hc : t' % 100 = t ∧ ¬ (i < 0 ∨ n ≤ i.toNatClampNeg)
    · rw [if_pos hc] at h; cases h
      exact ⟨a, t', n, f, rfl, hm, hc.1, hc.2, rfl⟩
    · rw [if_neg hc] at h; cases h
  · cases h
def gsI (t : Nat) (r : Option Nat) (i x : Int32) (mm : gM) : Option gM := match gar r mm with
  | some (t', n, .inl f) => if t' = t ∧ ¬ (i < 0 ∨ n ≤ i.toNatClampNeg) then some (gU mm (r.getD 0) (.inl (t, n, .inl (va_up f i.toNatClampNeg x)))) else none
  | _ => none
theorem gsI_spec {t : Nat} {r : Option Nat} {i x : Int32} {mm mm1 : gM} (h : gsI t r i x mm = some mm1) : ∃ (a n : Nat) (f : Nat → Int32), r = some a ∧ mm.1 a = some (.inl (t, n, .inl f)) ∧ vp_in i n ∧ mm1 = gU mm a (.inl (t, n, .inl (va_up f i.toNatClampNeg x))) := by
  unfold gsI at h
  split at h
  · next t' n f hg =>
    obtain ⟨a, rfl, hm⟩ := gar_spec hg
    by_cases hc : t' = t ∧ ¬ (i < 0 ∨ n ≤ i.toNatClampNeg)
    · rw [if_pos hc] at h; cases h
      obtain ⟨rfl, h2⟩ := hc
      exact ⟨a, n, f, rfl, hm, h2, rfl⟩
    · rw [if_neg hc] at h; cases h
  · cases h
def gsL (t : Nat) (r : Option Nat) (i : Int32) (x : Int64) (mm : gM) : Option gM := match gar r mm with
  | some (t', n, .inr (.inl f)) => if t' = t ∧ ¬ (i < 0 ∨ n ≤ i.toNatClampNeg) then some (gU mm (r.getD 0) (.inl (t, n, .inr (.inl (va_up f i.toNatClampNeg x))))) else none
  | _ => none
theorem gsL_spec {t : Nat} {r : Option Nat} {i : Int32} {x : Int64} {mm mm1 : gM} (h : gsL t r i x mm = some mm1) : ∃ (a n : Nat) (f : Nat → Int64), r = some a ∧ mm.1 a = some (.inl (t, n, .inr (.inl f))) ∧ vp_in i n ∧ mm1 = gU mm a (.inl (t, n, .inr (.inl (va_up f i.toNatClampNeg x)))) := by
  unfold gsL at h
  split at h
  · next t' n f hg =>
    obtain ⟨a, rfl, hm⟩ := gar_spec hg
    by_cases hc : t' = t ∧ ¬ (i < 0 ∨ n ≤ i.toNatClampNeg)
    · rw [if_pos hc] at h; cases h
      obtain ⟨rfl, h2⟩ := hc
      exact ⟨a, n, f, rfl, hm, h2, rfl⟩
    · rw [if_neg hc] at h; cases h
  · cases h
/-- what is stored into an array of references: nothing, or an object of one of these classes -/
def gok (cs : List Nat) (v : Option Nat) (mm : gM) : Bool := match v with
  | none => true
  | some b => match mm.1 b with
    | some (.inr o) => cs.contains o.1
    | _ => false
theorem gok_spec {cs : List Nat} {b : Nat} {mm : gM} (h : gok cs (some b) mm = true) : ∃ (ci : Nat) (fs : List Value), mm.1 b = some (.inr (ci, fs)) ∧ ci ∈ cs := by
  unfold gok at h
  dsimp only at h
  cases hm : mm.1 b with
  | none => rw [hm] at h; cases h
  | some e =>
    rw [hm] at h
    cases e with
    | inl x => cases h
    | inr o => exact ⟨o.1, o.2, rfl, by simpa using h⟩
def gsR (t : Nat) (cs : List Nat) (r : Option Nat) (i : Int32) (v : Option Nat) (mm : gM) : Option gM := match gar r mm with
  | some (t', n, .inr (.inr (.inr (.inr f)))) => if t' = t ∧ ¬ (i < 0 ∨ n ≤ i.toNatClampNeg) ∧ gok cs v mm = true then some (gU mm (r.getD 0) (.inl (t, n, .inr (.inr (.inr (.inr (va_up f i.toNatClampNeg v))))))) else none
  | _ => none
theorem gsR_spec {t : Nat} {cs : List Nat} {r : Option Nat} {i : Int32} {v : Option Nat} {mm mm1 : gM} (h : gsR t cs r i v mm = some mm1) : ∃ (a n : Nat) (f : Nat → Option Nat), r = some a ∧ mm.1 a = some (.inl (t, n, .inr (.inr (.inr (.inr f))))) ∧ vp_in i n ∧ gok cs v mm = true ∧ mm1 = gU mm a (.inl (t, n, .inr (.inr (.inr (.inr (va_up f i.toNatClampNeg v)))))) := by
  unfold gsR at h
  split at h
  · next t' n f hg =>
    obtain ⟨a, rfl, hm⟩ := gar_spec hg
    by_cases hc : t' = t ∧ ¬ (i < 0 ∨ n ≤ i.toNatClampNeg) ∧ gok cs v mm = true
    · rw [if_pos hc] at h; cases h
      obtain ⟨rfl, h2, h3⟩ := hc
      exact ⟨a, n, f, rfl, hm, h2, h3, rfl⟩
    · rw [if_neg hc] at h; cases h
  · cases h
theorem g_ty {E : gD} {s : State} (hK : gK E s) {t : Nat} {q : ClassId × FieldType} {ty : FieldType} (hq : E.2.1[t]? = some q) (ht : gTys[t]? = some ty) : q.2 = ty ∧ ArrOfT s q.1 ty ∧ va_RA s q.1 ty := by
  have h1 : (E.2.1.map Prod.snd)[t]? = some q.2 := by rw [List.getElem?_map, hq]; rfl
  rw [hK.2.1, ht] at h1
  have e := Option.some.inj h1
  have h2 := hK.1.2 t q hq
  rw [← e] at h2
  exact ⟨e.symm, h2⟩
theorem g_upV {α : Type} (mk : α → Value) (f : Nat → α) (k : Nat) (x : α) : updV (fun j => mk (f j)) k (mk x) = fun j => mk (va_up f k x j) := by
  funext q
  by_cases hq : q = k
  · subst hq
    simp [updV, va_up]
  · simp [updV, va_up, hq]
section GX3
variable {l : Launch} {E : gD} {Y : gY} {n0 s0 : Nat} {rv : Option Value} {res mm mm1 : gM} {lv lv' : List (Nat × gV)} {st st' : List gV}
theorem x_alen (pc : Nat) {r : Option Nat} {v : Int32} (hv : glen r mm = some v) (hdg : decode (yB Y) pc = .ok (.arraylength, 1)) (kk : xX l E Y n0 s0 rv res (pc + 1) lv (.inl v :: st) mm) : xX l E Y n0 s0 rv res pc lv (.inr (.inr r) :: st) mm := by
  unfold glen at hv
  split at hv
  · by_cases hc : r = some (mm.2.2.2.1 0)
    · rw [if_pos hc] at hv
      cases hv
      subst hc
      refine x_same (fun {p e s m args below meth c H locs ls cells slots Q} Cx hH hS hl _ _ kk => ?_) kk
      obtain ⟨hx, hb, hr, hml, hown, hts, hlocks, hname, hK⟩ := Cx
      have hT := hK.2.2.2.2.2.2.2.1
      rw [← hH.1.2.2] at hT
      exact va_tlen hx hb hT hS rfl hdg (kk _ hl)
    · rw [if_neg hc] at hv
      by_cases hc2 : r = some (mm.2.2.2.1 2)
      · rw [if_pos hc2] at hv
        cases hv
        subst hc2
        refine x_same (fun {p e s m args below meth c H locs ls cells slots Q} Cx hH hS hl _ _ kk => ?_) kk
        obtain ⟨hx, hb, hr, hml, hown, hts, hlocks, hname, hK⟩ := Cx
        obtain ⟨hX, hlt⟩ := hK.2.2.2.2.2.2.2.2.2.2
        rw [← hH.1.2.2] at hX hlt
        exact va_slen hx hb hX (Array.getElem?_eq_some_iff.mp hX.choose_spec.1).1 (Nat.not_le.mpr hlt) hS hdg (kk _ hl)
      · rw [if_neg hc2] at hv
        cases hv
  next x hg =>
  cases hv
  obtain ⟨a, rfl, hm⟩ := gar_spec hg
  refine x_same (fun {p e s m args below meth c H locs ls cells slots Q} Cx hH hS hl _ _ kk => ?_) kk
  obtain ⟨hx, hb, hr, hml, hown, hts, hlocks, hname, hK⟩ := Cx
  obtain ⟨h1, q, hq, hc⟩ := hH.2 a _ hm
  exact va_alen (D := E.1) (cl := gCl) (ws := [(a, .inl (q.1, x.2))]) (tys := E.2.1) hx hb hK.1 (g_one hc) 0 (x.1 % 100) rfl (ty := q.2) hq rfl hdg (kk _ hl)
theorem x_iald (pc : Nat) {t : Nat} {r : Option Nat} {i v : Int32} (ht : gTys[t]? = some .int) (hv : gaI t r i mm = some v) (hdg : decode (yB Y) pc = .ok (.iaload, 1)) (kk : xX l E Y n0 s0 rv res (pc + 1) lv (.inl v :: st) mm) : xX l E Y n0 s0 rv res pc lv (.inl i :: .inr (.inr r) :: st) mm := by
  rcases gaI_spec hv with ⟨a, t', n, f, rfl, hm, rfl, hin, rfl⟩ | ⟨-, rfl, hin, rfl⟩
  case inr =>
    refine x_same (fun {p e s m args below meth c H locs ls cells slots Q} Cx hH hS hl _ _ kk => ?_) kk
    obtain ⟨hx, hb, hr, hml, hown, hts, hlocks, hname, hK⟩ := Cx
    obtain ⟨hX, hlt⟩ := hK.2.2.2.2.2.2.2.2.2.2
    rw [← hH.1.2.2] at hX hlt
    exact va_sld hx hb hX (Array.getElem?_eq_some_iff.mp hX.choose_spec.1).1 (Nat.not_le.mpr hlt) hS hin hdg (kk _ hl)
  refine x_same (fun {p e s m args below meth c H locs ls cells slots Q} Cx hH hS hl _ _ kk => ?_) kk
  obtain ⟨hx, hb, hr, hml, hown, hts, hlocks, hname, hK⟩ := Cx
  obtain ⟨h1, ⟨cA, ty⟩, hq, hc⟩ := hH.2 a _ hm
  obtain ⟨rfl, -, -⟩ := g_ty hK hq ht
  exact va_iald (D := E.1) (cl := gCl) (ws := [(a, .inl (cA, n, .inl f))]) (tys := E.2.1) hx hb hK.1 (g_one hc) 0 (t' % 100) rfl hq hin hdg (kk _ hl)
theorem x_zald (pc : Nat) {t : Nat} {r : Option Nat} {i v : Int32} (ht : gTys[t]? = some .boolean) (hv : gaI t r i mm = some v) (hdg : decode (yB Y) pc = .ok (.baload, 1)) (kk : xX l E Y n0 s0 rv res (pc + 1) lv (.inl v :: st) mm) : xX l E Y n0 s0 rv res pc lv (.inl i :: .inr (.inr r) :: st) mm := by
  have h0t : ¬ t = 0 := by
    intro h0
    subst h0
    rw [show gTys[0]? = some .int from rfl] at ht
    cases ht
  rcases gaI_spec hv with ⟨a, t', n, f, rfl, hm, rfl, hin, rfl⟩ | ⟨h0, -, -, -⟩
  case inr => exact absurd h0 h0t
  refine x_same (fun {p e s m args below meth c H locs ls cells slots Q} Cx hH hS hl _ _ kk => ?_) kk
  obtain ⟨hx, hb, hr, hml, hown, hts, hlocks, hname, hK⟩ := Cx
  obtain ⟨h1, ⟨cA, ty⟩, hq, hc⟩ := hH.2 a _ hm
  obtain ⟨rfl, -, -⟩ := g_ty hK hq ht
  exact va_zald (D := E.1) (cl := gCl) (ws := [(a, .inl (cA, n, .inl f))]) (tys := E.2.1) hx hb hK.1 (g_one hc) 0 (t' % 100) rfl hq hin hdg (kk _ hl)
theorem x_lald (pc : Nat) {t : Nat} {r : Option Nat} {i : Int32} {v : Int64} (ht : gTys[t]? = some .long) (hv : gaL t r i mm = some v) (hdg : decode (yB Y) pc = .ok (.laload, 1)) (kk : xX l E Y n0 s0 rv res (pc + 1) lv (.inr (.inl v) :: st) mm) : xX l E Y n0 s0 rv res pc lv (.inl i :: .inr (.inr r) :: st) mm := by
  obtain ⟨a, t', n, f, rfl, hm, rfl, hin, rfl⟩ := gaL_spec hv
  refine x_same (fun {p e s m args below meth c H locs ls cells slots Q} Cx hH hS hl _ _ kk => ?_) kk
  obtain ⟨hx, hb, hr, hml, hown, hts, hlocks, hname, hK⟩ := Cx
  obtain ⟨h1, ⟨cA, ty⟩, hq, hc⟩ := hH.2 a _ hm
  obtain ⟨rfl, -, -⟩ := g_ty hK hq ht
  exact va_lald (D := E.1) (cl := gCl) (ws := [(a, .inl (cA, n, .inr (.inl f)))]) (tys := E.2.1) hx hb hK.1 (g_one hc) 0 (t' % 100) rfl hq hin hdg (kk _ hl)
theorem x_aald (pc : Nat) {t : Nat} {C : String} {r v : Option Nat} {i : Int32} (ht : gTys[t]? = some (.object C)) (hv : gaR t r i mm = some v) (hdg : decode (yB Y) pc = .ok (.aaload, 1)) (kk : xX l E Y n0 s0 rv res (pc + 1) lv (.inr (.inr v) :: st) mm) : xX l E Y n0 s0 rv res pc lv (.inl i :: .inr (.inr r) :: st) mm := by
  obtain ⟨a, t', n, f, rfl, hm, rfl, hin, rfl⟩ := gaR_spec hv
  refine x_same (fun {p e s m args below meth c H locs ls cells slots Q} Cx hH hS hl _ _ kk => ?_) kk
  obtain ⟨hx, hb, hr, hml, hown, hts, hlocks, hname, hK⟩ := Cx
  obtain ⟨h1, ⟨cA, ty⟩, hq, hc⟩ := hH.2 a _ hm
  obtain ⟨rfl, -, -⟩ := g_ty hK hq ht
  exact va_aldq (D := E.1) (cl := gCl) (C := C) (ws := [(a, .inl (cA, n, .inr (.inr (.inr (.inr f)))))]) (tys := E.2.1) hx hb hK.1 (g_one hc) 0 (t' % 100) rfl hq hin hdg (kk _ hl)
theorem x_iast (pc : Nat) {t : Nat} {r : Option Nat} {i x : Int32} (h100 : t < 100) (ht : gTys[t]? = some .int) (hv : gsI t r i x mm = some mm1) (hdg : decode (yB Y) pc = .ok (.iastore, 1)) (kk : xX l E Y n0 s0 rv res (pc + 1) lv st mm1) : xX l E Y n0 s0 rv res pc lv (.inl x :: .inl i :: .inr (.inr r) :: st) mm := by
  obtain ⟨a, n, f, rfl, hm, hin, rfl⟩ := gsI_spec hv
  refine x_write (mm1 := gU mm a _) rfl (fun {p e s m args below meth c H locs ls cells slots Q} Cx hH hS hl _ _ kk => ?_) kk
  obtain ⟨hx, hb, hr, hml, hown, hts, hlocks, hname, hK⟩ := Cx
  obtain ⟨h1, ⟨cA, ty⟩, hq, hc⟩ := hH.2 a _ hm
  have hq' := hq
  dsimp only at hq'
  rw [Nat.mod_eq_of_lt h100] at hq'
  obtain ⟨rfl, hAr, -⟩ := g_ty hK hq' ht
  refine W.iast hx hb hc (hAr n (fun j => .int (f j))) (fun h => by cases h) (by show ¬ (i < 0 ∨ (arrV _ _ _).slots.size ≤ _); rw [arrV_size]; exact hin) rfl rfl hdg fun H1 e1 z oq => ?_
  refine kk H1 _ (hH.put ⟨h1, _, hq, ?_⟩ z oq) (hS.put z oq (h1 h100))
  rw [e1]
  show some ((arrV cA n (fun j => .int (f j))).setSlot _ _) = some (arrV cA n (fun j => .int (va_up f _ _ j)))
  rw [arrV_store, g_upV (fun z => Value.int z)]
theorem x_zast (pc : Nat) {t : Nat} {r : Option Nat} {i x : Int32} (hx01 : x = 0 ∨ x = 1) (h100 : t < 100) (ht : gTys[t]? = some .boolean) (hv : gsI t r i x mm = some mm1) (hdg : decode (yB Y) pc = .ok (.bastore, 1)) (kk : xX l E Y n0 s0 rv res (pc + 1) lv st mm1) : xX l E Y n0 s0 rv res pc lv (.inl x :: .inl i :: .inr (.inr r) :: st) mm := by
  obtain ⟨a, n, f, rfl, hm, hin, rfl⟩ := gsI_spec hv
  refine x_write (mm1 := gU mm a _) rfl (fun {p e s m args below meth c H locs ls cells slots Q} Cx hH hS hl _ _ kk => ?_) kk
  obtain ⟨hx, hb, hr, hml, hown, hts, hlocks, hname, hK⟩ := Cx
  obtain ⟨h1, ⟨cA, ty⟩, hq, hc⟩ := hH.2 a _ hm
  have hq' := hq
  dsimp only at hq'
  rw [Nat.mod_eq_of_lt h100] at hq'
  obtain ⟨rfl, hAr, -⟩ := g_ty hK hq' ht
  refine W.zast hx hb hc (hAr n (fun j => .int (f j))) (fun h => by cases h) (by show ¬ (i < 0 ∨ (arrV _ _ _).slots.size ≤ _); rw [arrV_size]; exact hin) rfl rfl hdg fun H1 e1 z oq => ?_
  refine kk H1 _ (hH.put ⟨h1, _, hq, ?_⟩ z oq) (hS.put z oq (h1 h100))
  rw [e1, g_z hx01]
  show some ((arrV cA n (fun j => .int (f j))).setSlot _ _) = some (arrV cA n (fun j => .int (va_up f _ _ j)))
  rw [arrV_store, g_upV (fun z => Value.int z)]
theorem x_last (pc : Nat) {t : Nat} {r : Option Nat} {i : Int32} {x : Int64} (h100 : t < 100) (ht : gTys[t]? = some .long) (hv : gsL t r i x mm = some mm1) (hdg : decode (yB Y) pc = .ok (.lastore, 1)) (kk : xX l E Y n0 s0 rv res (pc + 1) lv st mm1) : xX l E Y n0 s0 rv res pc lv (.inr (.inl x) :: .inl i :: .inr (.inr r) :: st) mm := by
  obtain ⟨a, n, f, rfl, hm, hin, rfl⟩ := gsL_spec hv
  refine x_write (mm1 := gU mm a _) rfl (fun {p e s m args below meth c H locs ls cells slots Q} Cx hH hS hl _ _ kk => ?_) kk
  obtain ⟨hx, hb, hr, hml, hown, hts, hlocks, hname, hK⟩ := Cx
  obtain ⟨h1, ⟨cA, ty⟩, hq, hc⟩ := hH.2 a _ hm
  have hq' := hq
  dsimp only at hq'
  rw [Nat.mod_eq_of_lt h100] at hq'
  obtain ⟨rfl, hAr, -⟩ := g_ty hK hq' ht
  refine W.last hx hb hc (hAr n (fun j => .long (f j))) (fun h => by cases h) (by show ¬ (i < 0 ∨ (arrV _ _ _).slots.size ≤ _); rw [arrV_size]; exact hin) rfl rfl hdg fun H1 e1 z oq => ?_
  refine kk H1 _ (hH.put ⟨h1, _, hq, ?_⟩ z oq) (hS.put z oq (h1 h100))
  rw [e1]
  show some ((arrV cA n (fun j => .long (f j))).setSlot _ _) = some (arrV cA n (fun j => .long (va_up f _ _ j)))
  rw [arrV_store, g_upV (fun z => Value.long z)]
/-- the classes cs may lie in an array over D -/
def gInto (cs : List Nat) (D : String) : Prop := ∀ ci ∈ cs, ∃ (C : String) (T : u_T) (N : Nat), gCl[ci]? = some (C, T, N) ∧ (C = D ∨ (C, D) ∈ gNC)
theorem g_any {s : State} {H : Heap} {cs : List Nat} {D : String} {b : Nat} (hI : gInto cs D) (hK : gK E s) (hH : gH E mm H) (h : gok cs (some b) mm = true) : va_Any D s H b := by
  obtain ⟨ci, fs, hb, hci⟩ := gok_spec h
  obtain ⟨C, T, N, hc, hcd⟩ := hI ci hci
  refine va_rAny (ws := [(b, .inr (ci, fs))]) hK.1 (g_one (hH.2 b _ hb).2) (q0 := 0) rfl hc ?_
  intro comp c0 h1 h2
  rcases hcd with rfl | hcd
  · have e : comp = c0 := Option.some.inj (h1.symm.trans h2)
    subst e
    exact va_assign (C := C) ((hK.1.1 ci _ hc).2.1.symm.trans h1 |> Option.some.inj |> fun z => z ▸ (hK.1.1 ci _ hc).2)
  · obtain ⟨c1, t1, f1, f2, f3⟩ := Cond.castable_spec (va_Nw.use (A := #[]) rfl (hK.2.2.2.2.1 _ hcd))
    cases h2.symm.trans f1
    cases h1.symm.trans f2
    exact f3
theorem x_aast (pc : Nat) {t : Nat} {C : String} {cs : List Nat} {r v : Option Nat} {i : Int32} (h100 : t < 100) (ht : gTys[t]? = some (.object C)) (hI : gInto cs C) (hv : gsR t cs r i v mm = some mm1) (hdg : decode (yB Y) pc = .ok (.aastore, 1)) (kk : xX l E Y n0 s0 rv res (pc + 1) lv st mm1) : xX l E Y n0 s0 rv res pc lv (.inr (.inr v) :: .inl i :: .inr (.inr r) :: st) mm := by
  obtain ⟨a, n, f, rfl, hm, hin, hgo, rfl⟩ := gsR_spec hv
  refine x_write (mm1 := gU mm a _) rfl (fun {p e s m args below meth c H locs ls cells slots Q} Cx hH hS hl _ _ kk => ?_) kk
  obtain ⟨hx, hb, hr, hml, hown, hts, hlocks, hname, hK⟩ := Cx
  obtain ⟨h1, ⟨cA, ty⟩, hq, hc⟩ := hH.2 a _ hm
  have hq' := hq
  dsimp only at hq'
  rw [Nat.mod_eq_of_lt h100] at hq'
  obtain ⟨rfl, hAr, hRA⟩ := g_ty hK hq' ht
  have hlt : i.toNatClampNeg < n := Nat.not_le.mp fun q => hin (Or.inr q)
  have h0 : ¬ i < 0 := fun q => hin (Or.inl q)
  cases v with
  | none =>
    refine va_WaastN (C := C) hx hb hc (hAr n (fun j => va_rf (f j))) (fun h => by cases h) (by show ¬ (i < 0 ∨ (arrV _ _ _).slots.size ≤ _); rw [arrV_size]; exact hin) rfl rfl hdg fun H1 e1 z oq => ?_
    refine kk H1 _ (hH.put ⟨h1, _, hq, ?_⟩ z oq) (hS.put z oq (h1 h100))
    rw [e1]
    show some ((arrV cA n (fun j => va_rf (f j))).setSlot _ _) = some (arrV cA n (fun j => va_rf (va_up f _ _ j)))
    rw [arrV_store, ← g_upV (fun z => va_rf z)]
    rfl
  | some b =>
    obtain ⟨cellV, g1, g3, ⟨kC, hkC⟩, hasg⟩ := g_any hI hK hH hgo
    obtain ⟨kA, comp, k1, k2, k3, -⟩ := hRA
    obtain ⟨kE, hkE, -⟩ := Vm.findClass_spec k3
    refine W.aast hx hb hc (fun q h => by cases h) (fun h => by cases h) k1 k2 rfl hkE ⟨h0, by show _ < (arrV _ _ _).slots.size; rw [arrV_size]; exact hlt⟩ g1 (fun q h => by rw [h] at g3; cases g3) hkC (hasg _ k3) rfl rfl hdg fun H1 e1 z oq => ?_
    refine kk H1 _ (hH.put ⟨h1, _, hq, ?_⟩ z oq) (hS.put z oq (h1 h100))
    rw [e1]
    show some ((arrV cA n (fun j => va_rf (f j))).setSlot _ _) = some (arrV cA n (fun j => va_rf (va_up f _ _ j)))
    rw [arrV_store, ← g_upV (fun z => va_rf z)]
    rfl
end GX3
end
section
/-! making cells, casts, calls -/
def gnO (ci : Nat) (fs : List Value) (N : Nat) (mm : gM) : Option (Option Nat × gM) := some (some mm.2.1, gN mm (.inr (ci, fs)) N)
def gnI (t : Nat) (n : Int32) (mm : gM) : Option (Option Nat × gM) := if n < 0 ∨ 100000 < n.toNatClampNeg then none else some (some mm.2.1, gN mm (.inl (t, n.toNatClampNeg, .inl (fun _ => 0))) n.toNatClampNeg)
def gnL (t : Nat) (n : Int32) (mm : gM) : Option (Option Nat × gM) := if n < 0 ∨ 100000 < n.toNatClampNeg then none else some (some mm.2.1, gN mm (.inl (t, n.toNatClampNeg, .inr (.inl (fun _ => 0)))) n.toNatClampNeg)
def gnR (t : Nat) (n : Int32) (mm : gM) : Option (Option Nat × gM) := if n < 0 ∨ 100000 < n.toNatClampNeg then none else some (some mm.2.1, gN mm (.inl (t, n.toNatClampNeg, .inr (.inr (.inr (.inr (fun _ => none)))))) n.toNatClampNeg)
theorem gnA_spec {n : Int32} {mm mm1 : gM} {e : gE} {r : Option Nat} (h : (if n < 0 ∨ 100000 < n.toNatClampNeg then none else some (some mm.2.1, gN mm e n.toNatClampNeg)) = some (r, mm1)) : ¬ n < 0 ∧ n.toNatClampNeg ≤ 100000 ∧ r = some mm.2.1 ∧ mm1 = gN mm e n.toNatClampNeg := by
  by_cases hc : n < 0 ∨ 100000 < n.toNatClampNeg
  · rw [if_pos hc] at h; cases h
  · rw [if_neg hc] at h
    cases h
    exact ⟨fun z => hc (Or.inl z), Nat.le_of_not_lt fun z => hc (Or.inr z), rfl, rfl⟩
/-- what 'new' needs of the tables -/
def gNew (own : String) (idx ci N : Nat) (fs : List Value) : Prop := ∃ (C : String) (T : u_T) (ty : Nat → FieldType), gCl[ci]? = some (C, T, N) ∧ (∀ w ∈ u_ws C T N, w ∈ gT) ∧ (∀ k, k < N → parseFieldDescriptor (T k).2.2.1 = some (ty k)) ∧ Cond.classLink own idx C ∈ gT ∧ Cond.instantiable C N ∈ gT ∧ Cond.initialized C ∈ gT ∧ (∀ j, j < N → defaultValue (ty j) = vp_V fs j)
/-- what a call needs of the tables: v: by the receiver's class; i: a constructor; s: static -/
def gCb (own : String) (idx : Nat) (y : MethodName) (Y' : gY) : Prop := yC Y' = Cond.code y (yB Y') (yL Y') (yR Y') ∧ yC Y' ∈ gT ∧ Cond.initialized y.cls ∈ gT ∧ y.cls ≠ "java/lang/invoke/MethodHandle" ∧ y.cls ≠ "java/lang/invoke/VarHandle" ∧ (Cond.methodLink own idx y ∈ gT ∨ ∃ host, (own, idx, y, host) ∈ gNM)
def gCv (own : String) (idx : Nat) (y : MethodName) (Y' : gY) (ci : Nat) : Prop := gCb own idx y Y' ∧ Cond.instanceMethod y ∈ gT ∧ Cond.selects y.cls y y ∈ gT ∧ ∃ (T : u_T) (N : Nat), gCl[ci]? = some (y.cls, T, N)
def gCi (own : String) (idx : Nat) (y : MethodName) (Y' : gY) : Prop := gCb own idx y Y' ∧ Cond.instanceMethod y ∈ gT ∧ y.name = "<init>" ∧ yR Y' = none
def gCs (own : String) (idx : Nat) (y : MethodName) (Y' : gY) : Prop := gCb own idx y Y' ∧ Cond.static y ∈ gT
def gRoom (Y Y' : gY) (y : MethodName) (as st : List gV) (n : Nat) : Prop := as.length = n ∧ (parseMethodDescriptor y.desc).map (fun d => d.parameters.length) = some n ∧ yF Y' + 1 ≤ yF Y ∧ 8 + (yL Y' + 11) + yW Y' ≤ yW Y ∧ (st.map gc).sum ≤ 8
theorem g_good {Y Y' : gY} (h : yC Y' ∈ gT) : GoodIn (yC Y :: gT) (yC Y' :: gT) := by
  intro w hw
  have hin : w ∈ gT := by
    rcases List.mem_cons.mp hw with rfl | h2
    · exact h
    · exact h2
  exact ⟨List.mem_cons_of_mem _ hin, gT_good w hin⟩
theorem g_sum (st : List gV) : ((st.map gv).map fun v => v.category).sum = (st.map gc).sum := by
  rw [List.map_map]
  apply congrArg List.sum
  apply List.map_congr_left
  intro v _
  exact gv_cat v
section GX4
variable {l : Launch} {E : gD} {Y : gY} {n0 s0 : Nat} {rv : Option Value} {res mm mm1 : gM} {lv lv' : List (Nat × gV)} {st st' : List gV}
theorem g_new {H : Heap} (hH : gH E mm H) : gA E H.size := by
  show E.2.2.1 ≤ H.size
  rw [hH.1.1]
  exact hH.1.2.1
theorem x_new (pc : Nat) {idx ci N : Nat} {fs : List Value} {r : Option Nat} (w : gNew (yO Y) idx ci N fs) (hv : gnO ci fs N mm = some (r, mm1)) (hdg : decode (yB Y) pc = .ok (.new idx, 3)) (kk : xX l E Y n0 s0 rv res (pc + 3) lv (.inr (.inr r) :: st) mm1) : xX l E Y n0 s0 rv res pc lv st mm := by
  obtain ⟨C, T, ty, hc, hin, hty, w1, w2, w3, hfs⟩ := w
  have hv' : (some mm.2.1, gN mm (.inr (ci, fs)) N) = (r, mm1) := Option.some.inj hv
  cases hv'
  refine x_make (mm1 := gN mm _ _) (n := N) rfl (fun {p e s m args below meth c H locs ls cells slots Q} Cx hH hS hl hc1 hc2 kk => ?_) kk
  obtain ⟨hx, hb, hr, hml, hown, hts0, hlocks, hname, hK⟩ := Cx
  have hts : ∀ w ∈ gT, w.before args s = true := fun w h => hts0 w (List.mem_cons_of_mem _ h)
  have hKn := hK.1.1 ci _ hc
  have hgA := g_new hH
  refine W.newcK hx hb hown (hts _ w1) (hts _ w2) (hts _ w3) rfl hdg hc1 hc2 hKn.2.1 rfl fun H1 kC hkC e1 z1 o1 => ?_
  have kk2 := kk H1 locs (hH.push ⟨hgA, _, hc, (u_born ty hts hin hKn hkC e1 hty).to hfs⟩ z1 o1) ⟨Nat.le_trans hS.1 (by omega), fun q h1 h2 => (o1 q (Nat.lt_of_lt_of_le h1 hS.1)).trans (hS.2.1 q h1 h2), hS.2.2⟩
  rw [hH.1.1]
  exact kk2
theorem x_newI (pc : Nat) {t : Nat} {n : Int32} {r : Option Nat} (h100 : t < 100) (ht : gTys[t]? = some .int) (w : Cond.arrayClass .int ∈ gT) (hv : gnI t n mm = some (r, mm1)) (hdg : decode (yB Y) pc = .ok (.newarray .int, 2)) (kk : xX l E Y n0 s0 rv res (pc + 2) lv (.inr (.inr r) :: st) mm1) : xX l E Y n0 s0 rv res pc lv (.inl n :: st) mm := by
  obtain ⟨hn, hN, rfl, rfl⟩ := gnA_spec hv
  refine x_make (mm1 := gN mm _ _) (n := n.toNatClampNeg) rfl (fun {p e s m args below meth c H locs ls cells slots Q} Cx hH hS hl hc1 hc2 kk => ?_) kk
  obtain ⟨hx, hb, hr, hml, hown, hts0, hlocks, hname, hK⟩ := Cx
  have hts : ∀ w ∈ gT, w.before args s = true := fun w h => hts0 w (List.mem_cons_of_mem _ h)
  have hgA := g_new hH
  have hlen : t < E.2.1.length := by
    have h1 : t < (E.2.1.map Prod.snd).length := by rw [hK.2.1]; exact (List.getElem?_eq_some_iff.mp ht).1
    rwa [List.length_map] at h1
  have hq : E.2.1[t]? = some E.2.1[t] := List.getElem?_eq_getElem hlen
  obtain ⟨-, -, hRA⟩ := g_ty hK hq ht
  refine va_newaK (atype := .int) hx hb (hts _ w) rfl hdg rfl hn rfl (by show n.toNatClampNeg * 4 ≤ 536870912; omega) hc1 hc2 rfl fun H1 cA e1 z1 o1 _ hNm => ?_
  have hcA : (E.2.1[t]).1 = cA := Option.some.inj ((show s.vm.findClass _ = _ from hRA).symm.trans hNm)
  have kk2 := kk H1 locs (hH.push ⟨fun _ => hgA, E.2.1[t], by rw [Nat.mod_eq_of_lt h100]; exact hq, by rw [hcA]; exact e1⟩ z1 o1) ⟨Nat.le_trans hS.1 (by omega), fun q h1 h2 => (o1 q (Nat.lt_of_lt_of_le h1 hS.1)).trans (hS.2.1 q h1 h2), hS.2.2⟩
  rw [hH.1.1]
  exact kk2
theorem x_newZ (pc : Nat) {t : Nat} {n : Int32} {r : Option Nat} (h100 : t < 100) (ht : gTys[t]? = some .boolean) (w : Cond.arrayClass .boolean ∈ gT) (hv : gnI t n mm = some (r, mm1)) (hdg : decode (yB Y) pc = .ok (.newarray .boolean, 2)) (kk : xX l E Y n0 s0 rv res (pc + 2) lv (.inr (.inr r) :: st) mm1) : xX l E Y n0 s0 rv res pc lv (.inl n :: st) mm := by
  obtain ⟨hn, hN, rfl, rfl⟩ := gnA_spec hv
  refine x_make (mm1 := gN mm _ _) (n := n.toNatClampNeg) rfl (fun {p e s m args below meth c H locs ls cells slots Q} Cx hH hS hl hc1 hc2 kk => ?_) kk
  obtain ⟨hx, hb, hr, hml, hown, hts0, hlocks, hname, hK⟩ := Cx
  have hts : ∀ w ∈ gT, w.before args s = true := fun w h => hts0 w (List.mem_cons_of_mem _ h)
  have hgA := g_new hH
  have hlen : t < E.2.1.length := by
    have h1 : t < (E.2.1.map Prod.snd).length := by rw [hK.2.1]; exact (List.getElem?_eq_some_iff.mp ht).1
    rwa [List.length_map] at h1
  have hq : E.2.1[t]? = some E.2.1[t] := List.getElem?_eq_getElem hlen
  obtain ⟨-, -, hRA⟩ := g_ty hK hq ht
  refine va_newaK (atype := .boolean) hx hb (hts _ w) rfl hdg rfl hn rfl (by show n.toNatClampNeg * 1 ≤ 536870912; omega) hc1 hc2 rfl fun H1 cA e1 z1 o1 _ hNm => ?_
  have hcA : (E.2.1[t]).1 = cA := Option.some.inj ((show s.vm.findClass _ = _ from hRA).symm.trans hNm)
  have kk2 := kk H1 locs (hH.push ⟨fun _ => hgA, E.2.1[t], by rw [Nat.mod_eq_of_lt h100]; exact hq, by rw [hcA]; exact e1⟩ z1 o1) ⟨Nat.le_trans hS.1 (by omega), fun q h1 h2 => (o1 q (Nat.lt_of_lt_of_le h1 hS.1)).trans (hS.2.1 q h1 h2), hS.2.2⟩
  rw [hH.1.1]
  exact kk2
theorem x_newL (pc : Nat) {t : Nat} {n : Int32} {r : Option Nat} (h100 : t < 100) (ht : gTys[t]? = some .long) (w : Cond.arrayClass .long ∈ gT) (hv : gnL t n mm = some (r, mm1)) (hdg : decode (yB Y) pc = .ok (.newarray .long, 2)) (kk : xX l E Y n0 s0 rv res (pc + 2) lv (.inr (.inr r) :: st) mm1) : xX l E Y n0 s0 rv res pc lv (.inl n :: st) mm := by
  obtain ⟨hn, hN, rfl, rfl⟩ := gnA_spec hv
  refine x_make (mm1 := gN mm _ _) (n := n.toNatClampNeg) rfl (fun {p e s m args below meth c H locs ls cells slots Q} Cx hH hS hl hc1 hc2 kk => ?_) kk
  obtain ⟨hx, hb, hr, hml, hown, hts0, hlocks, hname, hK⟩ := Cx
  have hts : ∀ w ∈ gT, w.before args s = true := fun w h => hts0 w (List.mem_cons_of_mem _ h)
  have hgA := g_new hH
  have hlen : t < E.2.1.length := by
    have h1 : t < (E.2.1.map Prod.snd).length := by rw [hK.2.1]; exact (List.getElem?_eq_some_iff.mp ht).1
    rwa [List.length_map] at h1
  have hq : E.2.1[t]? = some E.2.1[t] := List.getElem?_eq_getElem hlen
  obtain ⟨-, -, hRA⟩ := g_ty hK hq ht
  refine va_newaK (atype := .long) hx hb (hts _ w) rfl hdg rfl hn rfl (by show n.toNatClampNeg * 8 ≤ 536870912; omega) hc1 hc2 rfl fun H1 cA e1 z1 o1 _ hNm => ?_
  have hcA : (E.2.1[t]).1 = cA := Option.some.inj ((show s.vm.findClass _ = _ from hRA).symm.trans hNm)
  have kk2 := kk H1 locs (hH.push ⟨fun _ => hgA, E.2.1[t], by rw [Nat.mod_eq_of_lt h100]; exact hq, by rw [hcA]; exact e1⟩ z1 o1) ⟨Nat.le_trans hS.1 (by omega), fun q h1 h2 => (o1 q (Nat.lt_of_lt_of_le h1 hS.1)).trans (hS.2.1 q h1 h2), hS.2.2⟩
  rw [hH.1.1]
  exact kk2
theorem x_newR (pc : Nat) {t idx : Nat} {C : String} {n : Int32} {r : Option Nat} (h100 : t < 100) (ht : gTys[t]? = some (.object C)) (w : Cond.classLink (yO Y) idx C ∈ gT) (w2 : C ∈ gAO) (hv : gnR t n mm = some (r, mm1)) (hdg : decode (yB Y) pc = .ok (.anewarray idx, 3)) (kk : xX l E Y n0 s0 rv res (pc + 3) lv (.inr (.inr r) :: st) mm1) : xX l E Y n0 s0 rv res pc lv (.inl n :: st) mm := by
  obtain ⟨hn, hN, rfl, rfl⟩ := gnA_spec hv
  refine x_make (mm1 := gN mm _ _) (n := n.toNatClampNeg) rfl (fun {p e s m args below meth c H locs ls cells slots Q} Cx hH hS hl hc1 hc2 kk => ?_) kk
  obtain ⟨hx, hb, hr, hml, hown, hts0, hlocks, hname, hK⟩ := Cx
  have hts : ∀ w ∈ gT, w.before args s = true := fun w h => hts0 w (List.mem_cons_of_mem _ h)
  have hgA := g_new hH
  have hlen : t < E.2.1.length := by
    have h1 : t < (E.2.1.map Prod.snd).length := by rw [hK.2.1]; exact (List.getElem?_eq_some_iff.mp ht).1
    rwa [List.length_map] at h1
  have hq : E.2.1[t]? = some E.2.1[t] := List.getElem?_eq_getElem hlen
  obtain ⟨-, -, kA0, comp0, -, -, -, hRA⟩ := g_ty hK hq ht
  refine W.anew hx hb hown (hts _ w) (va_AO.use (hK.2.2.2.2.2.1 _ w2)) rfl hdg rfl hn (by omega) hc1 hc2 fun cA kA comp f1 f2 f3 f4 => ?_
  have hcA : (E.2.1[t]).1 = cA := Option.some.inj (hRA.symm.trans f1)
  generalize hH1 : H.push ({ cls := cA, slots := Array.replicate n.toNatClampNeg .null, vm := .none } : Cell) = H1
  have z1 : H1.size = H.size + 1 := by rw [← hH1, Array.size_push]
  have e1 : H1[H.size]? = some (arrV cA n.toNatClampNeg (fun _ => .null)) := by rw [← hH1, Array.getElem?_push_size, ← arrV_new]
  have o1 : ∀ q : Nat, q < H.size → H1[q]? = H[q]? := fun q hq => by rw [← hH1, Array.getElem?_push, if_neg (Nat.ne_of_lt hq)]
  have kk2 := kk H1 locs (hH.push ⟨fun _ => hgA, E.2.1[t], by rw [Nat.mod_eq_of_lt h100]; exact hq, by rw [hcA]; exact e1⟩ z1 o1) ⟨Nat.le_trans hS.1 (by omega), fun q h1 h2 => (o1 q (Nat.lt_of_lt_of_le h1 hS.1)).trans (hS.2.1 q h1 h2), hS.2.2⟩
  rw [hH.1.1]
  exact kk2
/-- a cast to a class of ours -/
def gCast (ci : Nat) (r : Option Nat) (mm : gM) : Prop := r = none ∨ ∃ (a : Nat) (fs : List Value), r = some a ∧ mm.1 a = some (.inr (ci, fs))
def gcs (ci : Nat) (r : Option Nat) (mm : gM) : Option Unit := match r with
  | none => some ()
  | some a => match mm.1 a with
    | some (.inr o) => if o.1 = ci then some () else none
    | _ => none
theorem gcs_spec {ci : Nat} {r : Option Nat} {mm : gM} {u : Unit} (h : gcs ci r mm = some u) : gCast ci r mm := by
  unfold gcs at h
  cases r with
  | none => exact Or.inl rfl
  | some a =>
    dsimp only at h
    cases hm : mm.1 a with
    | none => rw [hm] at h; cases h
    | some e =>
      rw [hm] at h
      cases e with
      | inl x => cases h
      | inr o =>
        obtain ⟨c, fs⟩ := o
        dsimp only at h
        by_cases hc : c = ci
        · subst hc; exact Or.inr ⟨a, fs, rfl, hm⟩
        · rw [if_neg hc] at h; cases h
theorem x_cast (pc : Nat) {idx ci N : Nat} {C : String} {T : u_T} {r : Option Nat} {u : Unit} (hv : gcs ci r mm = some u) (hc : gCl[ci]? = some (C, T, N)) (w : Cond.classLink (yO Y) idx C ∈ gT) (hdg : decode (yB Y) pc = .ok (.checkcast idx, 3)) (kk : xX l E Y n0 s0 rv res (pc + 3) lv (.inr (.inr r) :: st) mm) : xX l E Y n0 s0 rv res pc lv (.inr (.inr r) :: st) mm := by
  rcases gcs_spec hv with rfl | ⟨a, fs, rfl, hm⟩
  · exact x_same (fun Cx hH hS hl _ _ kk => lv_castN Cx.1 Cx.2.1 hdg (kk _ hl)) kk
  · refine x_same (fun {p e s m args below meth c H locs ls cells slots Q} Cx hH hS hl _ _ kk => ?_) kk
    obtain ⟨hx, hb, hr, hml, hown, hts, hlocks, hname, hK⟩ := Cx
    exact va_castS hx hb hown (hts _ (List.mem_cons_of_mem _ w)) (hK.1.1 ci _ hc).2 (va_recv hK.1 (g_one (hH.2 a _ hm).2) hc (q0 := 0) rfl) hdg (kk _ hl)
/-! calls -/
theorem x_after {p : Program} {e : Env} {R : Room} {s : State} {m : MethodId} {args : Array Value} {below : List Frame} {meth : Method} {c : Code} {H : Heap} {locs : List Loc} {cells slots mc ms pc : Nat} {ls : Array Slot} {st0 rest : List Value} {a : Array Value} {rv1 : Option Value} {Q : State → Prop}
    (hr : va_Run p l e R s m args below meth c H locs cells slots mc ms (F0 m pc ls st0) rest (gQ E rv1 mm1 a) (gA E)) (hS : va_S (gA E) s.heap H locs)
    (kk : ∀ (H1 : Heap) (locs1 : List Loc), gH E mm1 H1 → va_S (gA E) s.heap H1 locs1 → W p l e R s m args below meth c H1 locs1 (cells + mc) (slots + ms) Q (F0 m (pc + 3) ls (rv1.toList ++ rest))) : W p l e R s m args below meth c H locs cells slots Q (F0 m pc ls st0) := by
  intro T hT X
  obtain ⟨v, st₀, t, T', L, h0, X', hL, e1, e2, ⟨hv, hb, hz, hk⟩, st⟩ := hr T hT X
  cases hv
  rw [h0] at hz hk
  obtain ⟨t2, a1, b1⟩ := kk T'.heap (locs ++ L) (by rw [e1]; exact hb)
    ⟨Nat.le_trans hS.1 (by rw [e1]; exact hz), fun q h1 h2 => by rw [e1, hk q (Nat.lt_of_lt_of_le h1 hS.1) h2]; exact hS.2.1 q h1 h2, fun q hq => by
      rcases List.mem_append.mp hq with h | h
      · exact hS.2.2 q h
      · exact hL q h⟩ T' rfl X'
  exact ⟨t2, st t2 a1, b1⟩
theorem g_blind {as : List gV} : FrameBlind (va_Pc (as.map gv) (fun U => gH E mm U.heap ∧ gK E U)) := by
  intro a U g mk q
  obtain ⟨q0, q1, q2⟩ := q
  exact ⟨q0, q1, q2.calling⟩
theorem g_pre {s : State} {H : Heap} {locs : List Loc} {as : List gV} (hH : gH E mm H) (hS : va_S (gA E) s.heap H locs) (hK : gK E s) : ∀ U : State, U.heap = H → s.WarmedH U.vm → va_Pc (as.map gv) (fun U => gH E mm U.heap ∧ gK E U) (as.map gv).toArray U := by
  intro U hU hW
  exact ⟨rfl, by rw [hU]; exact hH, hK.warm (locs := locs) hW (by rw [hU]; exact hS)⟩
/-- the shape of a call: what the kit's run of it gives, put behind the walk -/
theorem x_call {pc : Nat} {rv1 : Option Value} {rs : List gV} (hrs : rs.map gv = rv1.toList) (hle : gLe mm mm1)
    (h : ∀ {p : Program} {e : Env} {s : State} {m : MethodId} {args : Array Value} {below : List Frame} {meth : Method} {c : Code} {H : Heap} {locs : List Loc} {ls : Array Slot} {cells slots : Nat}, xC Y E p s m args meth c → gH E mm H → va_S (gA E) s.heap H locs → lv_has ls (yL Y) (lv.map gl) → cells + (mm1.2.1 - mm.2.1) ≤ res.2.1 - n0 → slots + (mm1.2.2.1 - mm.2.2.1) ≤ res.2.2.1 - s0 →
      ∃ a : Array Value, va_Run p l e (gR Y n0 s0 res) s m args below meth c H locs cells slots (mm1.2.1 - mm.2.1) (mm1.2.2.1 - mm.2.2.1) (F0 m pc ls (st.map gv)) (st'.map gv) (gQ E rv1 mm1 a) (gA E))
    (k : xX l E Y n0 s0 rv res (pc + 3) lv (rs ++ st') mm1) : xX l E Y n0 s0 rv res pc lv st mm := by
  obtain ⟨k1, k2⟩ := k
  obtain ⟨g1, g2⟩ := k1
  obtain ⟨g3, g4⟩ := hle
  refine ⟨⟨Nat.le_trans g3 g1, Nat.le_trans g4 g2⟩, ?_⟩
  intro p e s m args below meth c C hz h1 h2 H locs ls hH hS hl
  obtain ⟨a, hr⟩ := h (below := below) (cells := mm.2.1 - n0) (slots := mm.2.2.1 - s0) (e := e) C hH hS hl (by omega) (by omega)
  refine x_after hr hS (fun H1 locs1 hH1 hS1 => ?_)
  have e1 : mm.2.1 - n0 + (mm1.2.1 - mm.2.1) = mm1.2.1 - n0 := by omega
  have e2 : mm.2.2.1 - s0 + (mm1.2.2.1 - mm.2.2.1) = mm1.2.2.1 - s0 := by omega
  rw [e1, e2, ← hrs, ← List.map_append]
  exact k2 p e s m args below meth c C hz (by omega) (by omega) H1 locs1 ls hH1 hS1 hl
theorem g_sig {y : MethodName} {n : Nat} (h : (parseMethodDescriptor y.desc).map (fun d => d.parameters.length) = some n) : ∀ sig, parseMethodDescriptor y.desc = some sig → n = sig.parameters.length := by
  intro sig hs
  rw [hs] at h
  exact (Option.some.inj h).symm
theorem x_callV (pc n : Nat) {idx ci b : Nat} {Y' : gY} {y : MethodName} {as st2 : List gV} {rv1 : Option Value} {rs : List gV} {r : Option Nat} (km : ∀ (l : Launch) (E : gD), gLe mm mm1 ∧ gMet l E Y' y (.inr (.inr (some b)) :: as) rv1 mm mm1) (hrs : rs.map gv = rv1.toList) (w : gCv (yO Y) idx y Y' ci) (hrm : gRoom Y Y' y as st' n) (hb : grc ci r mm = some b) (hst : st2 = as.reverse ++ .inr (.inr r) :: st') (hdg : decode (yB Y) pc = .ok (.invokevirtual idx, 3))
    (k : xX l E Y n0 s0 rv res (pc + 3) lv (rs ++ st') mm1) : xX l E Y n0 s0 rv res pc lv st2 mm := by
  obtain ⟨⟨hcd, wc, wn, y1, y2, wl⟩, wi, wsel, T, N, hcl⟩ := w
  obtain ⟨r1, r2, r3, r4, r5⟩ := hrm
  obtain ⟨rfl, fs, hb⟩ := grc_spec hb
  subst hst
  refine x_call hrs (km l E).1 (fun {p e s m args below meth c H locs ls cells slots} Cx hH hS hl hc1 hc2 => ⟨((.inr (.inr (some b)) :: as).map gv).toArray, ?_⟩) k
  obtain ⟨hx, hbb, hr, hml, hown, hts, hlocks, hname, hK⟩ := Cx
  have hstk : (F0 m pc ls ((as.reverse ++ .inr (.inr (some b)) :: st').map gv)).stack = (as.map gv).reverse ++ .ref b :: st'.map gv := by
    show (as.reverse ++ .inr (.inr (some b)) :: st').map gv = _
    rw [List.map_append, List.map_reverse]; rfl
  have hW : 2 * (F0 m pc ls ((as.reverse ++ .inr (.inr (some b)) :: st').map gv)).monitorRoom + ((st'.map gv).map fun v => v.category).sum ≤ 8 := lv_room (by rw [g_sum]; exact r5)
  have hrecv := va_recv hK.1 (g_one (hH.2 b _ hb).2) hcl (q0 := 0) rfl
  rcases wl with wl | ⟨host, wl⟩
  · exact va_runV (As := as.map gv) (rest := st'.map gv) (bytes := yB Y') (maxL := yL Y') (ret := yR Y') (n := n) (C := y.cls) ⟨hx, hbb, hml, hown, hts⟩ (km l E).2
      ⟨callB_of n hts (g_good wc) (by rw [hcd]) rfl rfl (hts _ (List.mem_cons_of_mem _ wn)) (hts _ (List.mem_cons_of_mem _ wl)) ⟨y1, y2, r2⟩ ⟨r3, r4⟩, hts _ (List.mem_cons_of_mem _ wi), hts _ (List.mem_cons_of_mem _ wsel)⟩
      ⟨g_blind, hrecv, g_pre hH hS hK⟩ rfl (by rw [List.length_map]; exact r1) hl.1 hstk hW hdg ⟨hc1, hc2⟩
  · exact va_runVN (As := as.map gv) (rest := st'.map gv) (bytes := yB Y') (maxL := yL Y') (ret := yR Y') (n := n) (C := y.cls) (host := host) ⟨hx, hbb, hml, hown, hts⟩ (km l E).2
      ⟨va_cnB n hts (g_good wc) (by rw [hcd]) rfl rfl (hK.2.2.2.1 _ wl) (hts _ (List.mem_cons_of_mem _ wn)) ⟨y1, y2, r2⟩ ⟨r3, r4⟩, hts _ (List.mem_cons_of_mem _ wi), hts _ (List.mem_cons_of_mem _ wsel)⟩
      ⟨g_blind, hrecv, g_pre hH hS hK⟩ rfl (by rw [List.length_map]; exact r1) hl.1 hstk hW hdg ⟨hc1, hc2⟩
theorem x_callI (pc n : Nat) {idx b : Nat} {Y' : gY} {y : MethodName} {as st2 : List gV} (km : ∀ (l : Launch) (E : gD), gLe mm mm1 ∧ gMet l E Y' y (.inr (.inr (some b)) :: as) none mm mm1) (w : gCi (yO Y) idx y Y') (hrm : gRoom Y Y' y as st' n) (hst : st2 = as.reverse ++ .inr (.inr (some b)) :: st') (hdg : decode (yB Y) pc = .ok (.invokespecial idx, 3))
    (k : xX l E Y n0 s0 rv res (pc + 3) lv st' mm1) : xX l E Y n0 s0 rv res pc lv st2 mm := by
  obtain ⟨⟨hcd, wc, wn, y1, y2, wl⟩, wi, wnm, wr⟩ := w
  obtain ⟨r1, r2, r3, r4, r5⟩ := hrm
  subst hst
  refine x_call (rs := []) (rv1 := none) rfl (km l E).1 (fun {p e s m args below meth c H locs ls cells slots} Cx hH hS hl hc1 hc2 => ⟨((.inr (.inr (some b)) :: as).map gv).toArray, ?_⟩) k
  obtain ⟨hx, hbb, hr, hml, hown, hts, hlocks, hname, hK⟩ := Cx
  have hstk : (F0 m pc ls ((as.reverse ++ .inr (.inr (some b)) :: st').map gv)).stack = (as.map gv).reverse ++ .ref b :: st'.map gv := by
    show (as.reverse ++ .inr (.inr (some b)) :: st').map gv = _
    rw [List.map_append, List.map_reverse]; rfl
  have hW : 2 * (F0 m pc ls ((as.reverse ++ .inr (.inr (some b)) :: st').map gv)).monitorRoom + ((st'.map gv).map fun v => v.category).sum ≤ 8 := lv_room (by rw [g_sum]; exact r5)
  rw [wr] at hcd
  rcases wl with wl | ⟨host, wl⟩
  · exact va_runI (As := as.map gv) (rest := st'.map gv) (bytes := yB Y') (maxL := yL Y') (n := n) ⟨hx, hbb, hml, hown, hts⟩ (km l E).2
      ⟨callB_of n hts (g_good wc) (by rw [hcd]) rfl rfl (hts _ (List.mem_cons_of_mem _ wn)) (hts _ (List.mem_cons_of_mem _ wl)) ⟨y1, y2, r2⟩ ⟨r3, r4⟩, wnm, hts _ (List.mem_cons_of_mem _ wi)⟩
      ⟨g_blind, g_pre hH hS hK⟩ rfl (by rw [List.length_map]; exact r1) hl.1 hstk hW hdg ⟨hc1, hc2⟩
  · exact va_runIN (As := as.map gv) (rest := st'.map gv) (bytes := yB Y') (maxL := yL Y') (n := n) (host := host) ⟨hx, hbb, hml, hown, hts⟩ (km l E).2
      ⟨va_cnB n hts (g_good wc) (by rw [hcd]) rfl rfl (hK.2.2.2.1 _ wl) (hts _ (List.mem_cons_of_mem _ wn)) ⟨y1, y2, r2⟩ ⟨r3, r4⟩, wnm, hts _ (List.mem_cons_of_mem _ wi)⟩
      ⟨g_blind, g_pre hH hS hK⟩ rfl (by rw [List.length_map]; exact r1) hl.1 hstk hW hdg ⟨hc1, hc2⟩
theorem x_callS (pc n : Nat) {idx : Nat} {Y' : gY} {y : MethodName} {as st2 : List gV} {rv1 : Option Value} {rs : List gV} (km : ∀ (l : Launch) (E : gD), gLe mm mm1 ∧ gMet l E Y' y as rv1 mm mm1) (hrs : rs.map gv = rv1.toList) (w : gCs (yO Y) idx y Y') (hrm : gRoom Y Y' y as st' n) (hst : st2 = as.reverse ++ st') (hdg : decode (yB Y) pc = .ok (.invokestatic idx, 3))
    (k : xX l E Y n0 s0 rv res (pc + 3) lv (rs ++ st') mm1) : xX l E Y n0 s0 rv res pc lv st2 mm := by
  obtain ⟨⟨hcd, wc, wn, y1, y2, wl⟩, wi⟩ := w
  obtain ⟨r1, r2, r3, r4, r5⟩ := hrm
  subst hst
  refine x_call hrs (km l E).1 (fun {p e s m args below meth c H locs ls cells slots} Cx hH hS hl hc1 hc2 => ⟨(as.map gv).toArray, ?_⟩) k
  obtain ⟨hx, hbb, hr, hml, hown, hts, hlocks, hname, hK⟩ := Cx
  have hstk : (F0 m pc ls ((as.reverse ++ st').map gv)).stack = (as.map gv).reverse ++ st'.map gv := by
    show (as.reverse ++ st').map gv = _
    rw [List.map_append, List.map_reverse]
  have hW : 2 * (F0 m pc ls ((as.reverse ++ st').map gv)).monitorRoom + ((st'.map gv).map fun v => v.category).sum ≤ 8 := lv_room (by rw [g_sum]; exact r5)
  rcases wl with wl | ⟨host, wl⟩
  · exact va_runS (As := as.map gv) (rest := st'.map gv) (bytes := yB Y') (maxL := yL Y') (ret := yR Y') (n := n) ⟨hx, hbb, hml, hown, hts⟩ (km l E).2
      ⟨callB_of n hts (g_good wc) (by rw [hcd]) rfl rfl (hts _ (List.mem_cons_of_mem _ wn)) (hts _ (List.mem_cons_of_mem _ wl)) ⟨y1, y2, r2⟩ ⟨r3, r4⟩, hts _ (List.mem_cons_of_mem _ wi)⟩
      ⟨g_blind, g_pre hH hS hK⟩ rfl (by rw [List.length_map]; exact r1) hl.1 hstk hW hdg ⟨hc1, hc2⟩
  · exact va_runSN (As := as.map gv) (rest := st'.map gv) (bytes := yB Y') (maxL := yL Y') (ret := yR Y') (n := n) (host := host) ⟨hx, hbb, hml, hown, hts⟩ (km l E).2
      ⟨va_cnB n hts (g_good wc) (by rw [hcd]) rfl rfl (hK.2.2.2.1 _ wl) (hts _ (List.mem_cons_of_mem _ wn)) ⟨y1, y2, r2⟩ ⟨r3, r4⟩, hts _ (List.mem_cons_of_mem _ wi), trivial⟩
      ⟨g_blind, g_pre hH hS hK⟩ rfl (by rw [List.length_map]; exact r1) hl.1 hstk hW hdg ⟨hc1, hc2⟩
/-- Object's constructor -/
theorem x_objinit (pc : Nat) {idx : Nat} {r : Option Nat} {b : Nat} (hr0 : r = some b) (w1 : Cond.methodLink (yO Y) idx Lib.objectInit ∈ gT) (w2 : Cond.instanceMethod Lib.objectInit ∈ gT) (w3 : Cond.code Lib.objectInit ⟨#[0xb1]⟩ 1 none ∈ gT) (hf : 1 ≤ yF Y) (hlo : (st.map gc).sum + 12 ≤ yW Y) (hdg : decode (yB Y) pc = .ok (.invokespecial idx, 3)) (k : xX l E Y n0 s0 rv res (pc + 3) lv st mm) : xX l E Y n0 s0 rv res pc lv (.inr (.inr r) :: st) mm := by
  subst hr0
  refine x_same (fun {p e s m args below meth c H locs ls cells slots Q} Cx hH hS hl _ _ kk => ?_) k
  obtain ⟨hx, hb, hr, hml, hown, hts, hlocks, hname, hK⟩ := Cx
  refine W.objInit hx hb hown (hts _ (List.mem_cons_of_mem _ w1)) (hts _ (List.mem_cons_of_mem _ w2)) (hts _ (List.mem_cons_of_mem _ w3)) rfl (by rw [hml]; exact hl.1) (a := b) (rest := st.map gv) rfl hdg hf (by show 2 * 0 + _ + 12 ≤ yW Y; rw [g_sum]; omega) (kk _ hl)
end GX4
end
section
/-! switches, Math, System.arraycopy -/
def gcI (t : Nat) (r0 : Option Nat) (sp : Int32) (r1 : Option Nat) (dp n : Int32) (mm : gM) : Option gM := match gar r0 mm with
  | some (t0, n0, .inl f) => match gar r1 mm with
    | some (t1, n1, .inl g) => if t0 % 100 = t ∧ t1 = t ∧ ¬ sp < 0 ∧ ¬ dp < 0 ∧ ¬ n < 0 ∧ sp.toNatClampNeg + n.toNatClampNeg ≤ n0 ∧ dp.toNatClampNeg + n.toNatClampNeg ≤ n1 then some (gU mm (r1.getD 0) (.inl (t, n1, .inl (va_cpy f g sp.toNatClampNeg dp.toNatClampNeg n.toNatClampNeg)))) else none
    | _ => none
  | _ => none
theorem gcI_spec {t : Nat} {r0 r1 : Option Nat} {sp dp n : Int32} {mm mm1 : gM} (h : gcI t r0 sp r1 dp n mm = some mm1) : ∃ (a0 t0 n0 : Nat) (f : Nat → Int32) (a1 n1 : Nat) (g : Nat → Int32), r0 = some a0 ∧ r1 = some a1 ∧ mm.1 a0 = some (.inl (t0, n0, .inl f)) ∧ mm.1 a1 = some (.inl (t, n1, .inl g)) ∧ t0 % 100 = t ∧ ¬ sp < 0 ∧ ¬ dp < 0 ∧ ¬ n < 0 ∧ sp.toNatClampNeg + n.toNatClampNeg ≤ n0 ∧ dp.toNatClampNeg + n.toNatClampNeg ≤ n1 ∧ mm1 = gU mm a1 (.inl (t, n1, .inl (va_cpy f g sp.toNatClampNeg dp.toNatClampNeg n.toNatClampNeg))) := by
  unfold gcI at h
  split at h
  · next t0 n0 f hg0 =>
    split at h
    · next t1 n1 g hg1 =>
      obtain ⟨a0, rfl, hm0⟩ := gar_spec hg0
      obtain ⟨a1, rfl, hm1⟩ := gar_spec hg1
      by_cases hc : t0 % 100 = t ∧ t1 = t ∧ ¬ sp < 0 ∧ ¬ dp < 0 ∧ ¬ n < 0 ∧ sp.toNatClampNeg + n.toNatClampNeg ≤ n0 ∧ dp.toNatClampNeg + n.toNatClampNeg ≤ n1
      · rw [if_pos hc] at h; cases h
        obtain ⟨h1, rfl, h2⟩ := hc
        exact ⟨a0, t0, n0, f, a1, n1, g, rfl, rfl, hm0, hm1, h1, h2.1, h2.2.1, h2.2.2.1, h2.2.2.2.1, h2.2.2.2.2, rfl⟩
      · rw [if_neg hc] at h; cases h
    · cases h
  · cases h
def gcR (t : Nat) (cs : List Nat) (r0 : Option Nat) (sp : Int32) (r1 : Option Nat) (dp n : Int32) (mm : gM) : Option gM := match gar r0 mm with
  | some (t0, n0, .inr (.inr (.inr (.inr f)))) => match gar r1 mm with
    | some (t1, n1, .inr (.inr (.inr (.inr g)))) => if t0 % 100 = t ∧ t1 = t ∧ ¬ sp < 0 ∧ ¬ dp < 0 ∧ ¬ n < 0 ∧ sp.toNatClampNeg + n.toNatClampNeg ≤ n0 ∧ dp.toNatClampNeg + n.toNatClampNeg ≤ n1 ∧ (List.range n.toNatClampNeg).all (fun i => gok cs (f (sp.toNatClampNeg + i)) mm) = true then some (gU mm (r1.getD 0) (.inl (t, n1, .inr (.inr (.inr (.inr (va_cpy f g sp.toNatClampNeg dp.toNatClampNeg n.toNatClampNeg))))))) else none
    | _ => none
  | _ => none
theorem gcR_spec {t : Nat} {cs : List Nat} {r0 r1 : Option Nat} {sp dp n : Int32} {mm mm1 : gM} (h : gcR t cs r0 sp r1 dp n mm = some mm1) : ∃ (a0 t0 n0 : Nat) (f : Nat → Option Nat) (a1 n1 : Nat) (g : Nat → Option Nat), r0 = some a0 ∧ r1 = some a1 ∧ mm.1 a0 = some (.inl (t0, n0, .inr (.inr (.inr (.inr f))))) ∧ mm.1 a1 = some (.inl (t, n1, .inr (.inr (.inr (.inr g))))) ∧ t0 % 100 = t ∧ ¬ sp < 0 ∧ ¬ dp < 0 ∧ ¬ n < 0 ∧ sp.toNatClampNeg + n.toNatClampNeg ≤ n0 ∧ dp.toNatClampNeg + n.toNatClampNeg ≤ n1 ∧ (∀ i, i < n.toNatClampNeg → gok cs (f (sp.toNatClampNeg + i)) mm = true) ∧ mm1 = gU mm a1 (.inl (t, n1, .inr (.inr (.inr (.inr (va_cpy f g sp.toNatClampNeg dp.toNatClampNeg n.toNatClampNeg)))))) := by
  unfold gcR at h
  split at h
  · next t0 n0 f hg0 =>
    split at h
    · next t1 n1 g hg1 =>
      obtain ⟨a0, rfl, hm0⟩ := gar_spec hg0
      obtain ⟨a1, rfl, hm1⟩ := gar_spec hg1
      by_cases hc : t0 % 100 = t ∧ t1 = t ∧ ¬ sp < 0 ∧ ¬ dp < 0 ∧ ¬ n < 0 ∧ sp.toNatClampNeg + n.toNatClampNeg ≤ n0 ∧ dp.toNatClampNeg + n.toNatClampNeg ≤ n1 ∧ (List.range n.toNatClampNeg).all (fun i => gok cs (f (sp.toNatClampNeg + i)) mm) = true
      · rw [if_pos hc] at h; cases h
        obtain ⟨h1, rfl, h2⟩ := hc
        exact ⟨a0, t0, n0, f, a1, n1, g, rfl, rfl, hm0, hm1, h1, h2.1, h2.2.1, h2.2.2.1, h2.2.2.2.1, h2.2.2.2.2.1, fun i hi => List.all_eq_true.mp h2.2.2.2.2.2 i (List.mem_range.mpr hi), rfl⟩
      · rw [if_neg hc] at h; cases h
    · cases h
  · cases h
theorem g_nn (z : Int32) (hz : ¬ z < 0) : z.toInt = (z.toNatClampNeg : Int) := by
  have hz0 : (0 : Int) ≤ z.toInt := by
    have := Int32.not_lt.mp hz
    simpa using Int32.le_iff_toInt_le.mp this
  show z.toInt = ((z.toInt.toNat : Nat) : Int)
  omega
section GX5
variable {l : Launch} {E : gD} {Y : gY} {n0 s0 : Nat} {rv : Option Value} {res mm mm1 : gM} {lv lv' : List (Nat × gV)} {st st' : List gV}
theorem x_tsIn (pc tgt : Nat) (k : Int32) {x : Int32} {dflt lo hi off : Int} {offs : Array Int} {len : Nat} (hx : x = k) (hdg : decode (yB Y) pc = .ok (.tableswitch dflt lo hi offs, len)) (h1 : ¬ k.toInt < lo) (h2 : ¬ hi < k.toInt) (ho : offs[(k.toInt - lo).toNat]? = some off) (ht : (pc : Int) + off = (tgt : Int)) (kk : xX l E Y n0 s0 rv res tgt lv st mm) : xX l E Y n0 s0 rv res pc lv (.inl x :: st) mm := by
  subst hx
  exact x_same (fun C hH hS hl _ _ kk => lv_tableIn C.1 C.2.1 hdg h1 h2 ho ht (kk _ hl)) kk
theorem x_tsOut (pc tgt : Nat) {x : Int32} {dflt lo hi : Int} {offs : Array Int} {len : Nat} (hdg : decode (yB Y) pc = .ok (.tableswitch dflt lo hi offs, len)) (h : x.toInt < lo ∨ hi < x.toInt) (ht : (pc : Int) + dflt = (tgt : Int)) (kk : xX l E Y n0 s0 rv res tgt lv st mm) : xX l E Y n0 s0 rv res pc lv (.inl x :: st) mm :=
  x_same (fun C hH hS hl _ _ kk => lv_tableOut C.1 C.2.1 hdg h ht (kk _ hl)) kk
theorem g_ne {x : Int32} (k : Int32) (h : ¬ x = k) : x.toInt ≠ k.toInt := fun z => h (Int32.toInt_inj.mp z)
theorem x_mmax (pc : Nat) {idx : Nat} {x y : Int32} (w1 : Cond.methodLink (yO Y) idx Lib.Math.max.name ∈ gT) (w2 : Cond.static Lib.Math.max.name ∈ gT) (w3 : Cond.initialized "java/lang/Math" ∈ gT) (w4 : Cond.code Lib.Math.max.name Lib.Math.max.code 2 (some .int) ∈ gT) (hf : 1 ≤ yF Y) (hlo : (st.map gc).sum + 13 ≤ yW Y) (hdg : decode (yB Y) pc = .ok (.invokestatic idx, 3)) (kk : xX l E Y n0 s0 rv res (pc + 3) lv (.inl (if x < y then y else x) :: st) mm) : xX l E Y n0 s0 rv res pc lv (.inl y :: .inl x :: st) mm := by
  refine x_same (fun {p e s m args below meth c H locs ls cells slots Q} Cx hH hS hl hc1 hc2 kk => ?_) kk
  obtain ⟨hx, hb, hr, hml, hown, hts, hlocks, hname, hK⟩ := Cx
  exact va_mmax hx hb (by rw [hml]; exact hl.1.symm) hown (hts _ (List.mem_cons_of_mem _ w1)) (hts _ (List.mem_cons_of_mem _ w2)) (hts _ (List.mem_cons_of_mem _ w3)) (hts _ (List.mem_cons_of_mem _ w4)) hf (by rw [g_sum]; exact hlo) hc1 hc2 hdg (kk _ hl)
theorem x_mmin (pc : Nat) {idx : Nat} {x y : Int32} (w1 : Cond.methodLink (yO Y) idx Lib.Math.min.name ∈ gT) (w2 : Cond.static Lib.Math.min.name ∈ gT) (w3 : Cond.initialized "java/lang/Math" ∈ gT) (w4 : Cond.code Lib.Math.min.name Lib.Math.min.code 2 (some .int) ∈ gT) (hf : 1 ≤ yF Y) (hlo : (st.map gc).sum + 13 ≤ yW Y) (hdg : decode (yB Y) pc = .ok (.invokestatic idx, 3)) (kk : xX l E Y n0 s0 rv res (pc + 3) lv (.inl (if y < x then y else x) :: st) mm) : xX l E Y n0 s0 rv res pc lv (.inl y :: .inl x :: st) mm := by
  refine x_same (fun {p e s m args below meth c H locs ls cells slots Q} Cx hH hS hl hc1 hc2 kk => ?_) kk
  obtain ⟨hx, hb, hr, hml, hown, hts, hlocks, hname, hK⟩ := Cx
  exact va_mmin hx hb (by rw [hml]; exact hl.1.symm) hown (hts _ (List.mem_cons_of_mem _ w1)) (hts _ (List.mem_cons_of_mem _ w2)) (hts _ (List.mem_cons_of_mem _ w3)) (hts _ (List.mem_cons_of_mem _ w4)) hf (by rw [g_sum]; exact hlo) hc1 hc2 hdg (kk _ hl)
theorem x_mmaxL (pc : Nat) {idx : Nat} {x y : Int64} (w1 : Cond.methodLink (yO Y) idx Lib.MathLoose.max_long.x ∈ gT) (w2 : Cond.static Lib.MathLoose.max_long.x ∈ gT) (w3 : Cond.initialized "java/lang/Math" ∈ gT) (w4 : Cond.code Lib.MathLoose.max_long.x Lib.MathLoose.max_long.code 4 (some .long) ∈ gT) (hf : 1 ≤ yF Y) (hlo : (st.map gc).sum + 15 ≤ yW Y) (hdg : decode (yB Y) pc = .ok (.invokestatic idx, 3)) (kk : xX l E Y n0 s0 rv res (pc + 3) lv (.inr (.inl (if y < x then x else y)) :: st) mm) : xX l E Y n0 s0 rv res pc lv (.inr (.inl y) :: .inr (.inl x) :: st) mm := by
  refine x_same (fun {p e s m args below meth c H locs ls cells slots Q} Cx hH hS hl hc1 hc2 kk => ?_) kk
  obtain ⟨hx, hb, hr, hml, hown, hts, hlocks, hname, hK⟩ := Cx
  exact va_mmax_long hx hb (by rw [hml]; exact hl.1.symm) hown (hts _ (List.mem_cons_of_mem _ w1)) (hts _ (List.mem_cons_of_mem _ w2)) (hts _ (List.mem_cons_of_mem _ w3)) (hts _ (List.mem_cons_of_mem _ w4)) hf (by rw [g_sum]; exact hlo) hc1 hc2 hdg (kk _ hl)
theorem x_mabsL (pc : Nat) {idx : Nat} {x : Int64} (w1 : Cond.methodLink (yO Y) idx Lib.MathLoose.abs_long.x ∈ gT) (w2 : Cond.static Lib.MathLoose.abs_long.x ∈ gT) (w3 : Cond.initialized "java/lang/Math" ∈ gT) (w4 : Cond.code Lib.MathLoose.abs_long.x Lib.MathLoose.abs_long.code 2 (some .long) ∈ gT) (hf : 1 ≤ yF Y) (hlo : (st.map gc).sum + 13 ≤ yW Y) (hdg : decode (yB Y) pc = .ok (.invokestatic idx, 3)) (kk : xX l E Y n0 s0 rv res (pc + 3) lv (.inr (.inl (if 0 < x then x else -x)) :: st) mm) : xX l E Y n0 s0 rv res pc lv (.inr (.inl x) :: st) mm := by
  refine x_same (fun {p e s m args below meth c H locs ls cells slots Q} Cx hH hS hl hc1 hc2 kk => ?_) kk
  obtain ⟨hx, hb, hr, hml, hown, hts, hlocks, hname, hK⟩ := Cx
  exact va_mabs_long hx hb (by rw [hml]; exact hl.1.symm) hown (hts _ (List.mem_cons_of_mem _ w1)) (hts _ (List.mem_cons_of_mem _ w2)) (hts _ (List.mem_cons_of_mem _ w3)) (hts _ (List.mem_cons_of_mem _ w4)) hf (by rw [g_sum]; exact hlo) hc1 hc2 hdg (kk _ hl)
def gArr (own : String) (idx : Nat) : Prop := Cond.methodLink own idx arraycopyName ∈ gT ∧ Cond.native arraycopyName ∈ gT ∧ Cond.static arraycopyName ∈ gT ∧ Cond.initialized "java/lang/System" ∈ gT
theorem x_copyI (pc : Nat) {idx t : Nat} {r0 r1 : Option Nat} {sp dp n : Int32} (h100 : t < 100) (ht : gTys[t]? = some .int) (w : gArr (yO Y) idx) (hv : gcI t r0 sp r1 dp n mm = some mm1) (hf : 1 ≤ yF Y) (hlo : (st.map gc).sum + (nativeFrameWords "java/lang/System" "arraycopy" 5 + 11) ≤ yW Y) (hdg : decode (yB Y) pc = .ok (.invokestatic idx, 3)) (kk : xX l E Y n0 s0 rv res (pc + 3) lv st mm1) : xX l E Y n0 s0 rv res pc lv (.inl n :: .inl dp :: .inr (.inr r1) :: .inl sp :: .inr (.inr r0) :: st) mm := by
  obtain ⟨a0, t0, n0', f, a, n1, g, rfl, rfl, hm0, hm1, ht0, h1, h2, h3, h4, h5, rfl⟩ := gcI_spec hv
  obtain ⟨w1, w2, w3, w4⟩ := w
  refine x_write (mm1 := gU mm a _) rfl (fun {p e s m args below meth c H locs ls cells slots Q} Cx hH hS hl _ _ kk => ?_) kk
  obtain ⟨hx, hb, hr, hml, hown, hts0, hlocks, hname, hK⟩ := Cx
  have hts : ∀ w ∈ gT, w.before args s = true := fun w h => hts0 w (List.mem_cons_of_mem _ h)
  obtain ⟨-, ⟨c0, ty0⟩, hq0, hc0⟩ := hH.2 a0 _ hm0
  obtain ⟨hgA, ⟨c1, ty1⟩, hq1, hc1⟩ := hH.2 a _ hm1
  dsimp only at hq0 hc0 hc1
  have hq1' := hq1
  dsimp only at hq1'
  rw [Nat.mod_eq_of_lt h100] at hq1'
  rw [ht0] at hq0
  obtain ⟨rfl, hA0, -⟩ := g_ty hK hq0 ht
  obtain ⟨rfl, hA1, -⟩ := g_ty hK hq1' ht
  intro T hT X
  obtain ⟨-, k0, hk0, cm0, hkk0⟩ := hA0 n0' (fun j => .int (f j))
  obtain ⟨-, k1, hk1, cm1, hkk1⟩ := hA1 n1 (fun j => .int (g j))
  obtain ⟨vm', X', step⟩ := X.arraycopy hx hown (hts _ w1) (hts _ w2) (hts _ w3) (hts _ w4) (src := a0) (dst := a) (cs := vp_cell c0 (n0', .inl f)) (cd := vp_cell c1 (n1, .inl g)) (srcPos := sp) (destPos := dp) (n := n) (by rw [hT]; exact hc0) (by rw [hT]; exact hc1)
    (fun _ h => by cases h) (fun _ h => by cases h) (fun h => by cases h) (fun h => by cases h) hk0 hk1 hkk0 hkk1 (by simp [refKind]) h1 h2 h3
    (by rw [g_nn sp h1, g_nn n h3]; show ¬ _ > ((arrV c0 n0' (fun j => .int (f j))).slots.size : Int); rw [arrV_size]; omega)
    (by rw [g_nn dp h2, g_nn n h3]; show ¬ _ > ((arrV c1 n1 (fun j => .int (g j))).slots.size : Int); rw [arrV_size]; omega)
    (fun vm₁ _ i hi => by
      have e : (vp_cell c0 (n0', .inl f)).slots.getD (sp.toNatClampNeg + i) .null = .int (f (sp.toNatClampNeg + i)) := by
        show (arrV c0 n0' (fun j => .int (f j))).slots.getD _ _ = _
        rw [Array.getD_eq_getD_getElem?, arrV_read _ _ (by omega)]
        rfl
      refine ⟨?_, ?_⟩
      · rw [e]
        rfl
      · rw [e]
        exact trivial)
    (g := F0 m pc ls ((.inl n :: .inl dp :: .inr (.inr (some a)) :: .inl sp :: .inr (.inr (some a0)) :: st : List gV).map gv)) rfl (by rw [hml]; exact hl.1) (rest := st.map gv) rfl (by rw [hb]; exact hdg) hf (by show 2 * 0 + _ + _ ≤ _; rw [g_sum]; show _ ≤ yW Y; omega)
  have e1 : copied (vp_cell c0 (n0', .inl f)) (vp_cell c1 (n1, .inl g)) sp dp n = vp_cell c1 (n1, .inl (va_cpy f g sp.toNatClampNeg dp.toNatClampNeg n.toNatClampNeg)) := va_copied (fun z => .int z) c0 c1 f g h4
  rw [e1] at X' step
  have hl2 : a < H.size := (Array.getElem?_eq_some_iff.mp hc1).1
  have hheap : ((T.setVm vm').setCell a (vp_cell c1 (n1, .inl (va_cpy f g sp.toNatClampNeg dp.toNatClampNeg n.toNatClampNeg)))).heap = H.setIfInBounds a (vp_cell c1 (n1, .inl (va_cpy f g sp.toNatClampNeg dp.toNatClampNeg n.toNatClampNeg))) := by rw [← hT]; rfl
  have oq : ∀ q : Nat, q ≠ a → (H.setIfInBounds a (vp_cell c1 (n1, .inl (va_cpy f g sp.toNatClampNeg dp.toNatClampNeg n.toNatClampNeg))))[q]? = H[q]? := fun q hq => by simp [Array.getElem?_setIfInBounds, Ne.symm hq]
  obtain ⟨t, a1, b1⟩ := kk _ _ (hH.put ⟨hgA, _, hq1, (show (H.setIfInBounds a _)[a]? = some _ by simp [Array.getElem?_setIfInBounds, hl2])⟩ (by simp) oq) ⟨by simp; exact hS.1, fun q g1 g2 => by
      rw [oq q (fun e => g2 (by rw [e]; exact hgA h100))]
      exact hS.2.1 q g1 g2, fun q hq => by
      rcases List.mem_append.mp hq with h | h
      · exact hS.2.2 q h
      · obtain ⟨z, -, hz⟩ := List.mem_map.mp h
        rw [← hz]
        exact hgA h100⟩ _ hheap X'
  exact ⟨t, step t a1, b1⟩
theorem x_copyR (pc : Nat) {idx t : Nat} {cs : List Nat} {C : String} {r0 r1 : Option Nat} {sp dp n : Int32} (h100 : t < 100) (ht : gTys[t]? = some (.object C)) (hI : gInto cs C) (w : gArr (yO Y) idx) (hv : gcR t cs r0 sp r1 dp n mm = some mm1) (hf : 1 ≤ yF Y) (hlo : (st.map gc).sum + (nativeFrameWords "java/lang/System" "arraycopy" 5 + 11) ≤ yW Y) (hdg : decode (yB Y) pc = .ok (.invokestatic idx, 3)) (kk : xX l E Y n0 s0 rv res (pc + 3) lv st mm1) : xX l E Y n0 s0 rv res pc lv (.inl n :: .inl dp :: .inr (.inr r1) :: .inl sp :: .inr (.inr r0) :: st) mm := by
  obtain ⟨a0, t0, n0', f, a, n1, g, rfl, rfl, hm0, hm1, ht0, h1, h2, h3, h4, h5, hel, rfl⟩ := gcR_spec hv
  obtain ⟨w1, w2, w3, w4⟩ := w
  refine x_write (mm1 := gU mm a _) rfl (fun {p e s m args below meth c H locs ls cells slots Q} Cx hH hS hl _ _ kk => ?_) kk
  obtain ⟨hx, hb, hr, hml, hown, hts0, hlocks, hname, hK⟩ := Cx
  have hts : ∀ w ∈ gT, w.before args s = true := fun w h => hts0 w (List.mem_cons_of_mem _ h)
  obtain ⟨-, ⟨c0, ty0⟩, hq0, hc0⟩ := hH.2 a0 _ hm0
  obtain ⟨hgA, ⟨c1, ty1⟩, hq1, hc1⟩ := hH.2 a _ hm1
  dsimp only at hq0 hc0 hc1
  have hq1' := hq1
  dsimp only at hq1'
  rw [Nat.mod_eq_of_lt h100] at hq1'
  rw [ht0] at hq0
  obtain ⟨rfl, hA0, -⟩ := g_ty hK hq0 ht
  obtain ⟨rfl, hA1, hRA1⟩ := g_ty hK hq1' ht
  intro T hT X
  obtain ⟨-, k0, hk0, cm0, hkk0⟩ := hA0 n0' (fun j => va_rf (f j))
  obtain ⟨-, k1, hk1, cm1, hkk1⟩ := hA1 n1 (fun j => va_rf (g j))
  obtain ⟨vm', X', step⟩ := X.arraycopy hx hown (hts _ w1) (hts _ w2) (hts _ w3) (hts _ w4) (src := a0) (dst := a) (cs := vp_cell c0 (n0', .inr (.inr (.inr (.inr f))))) (cd := vp_cell c1 (n1, .inr (.inr (.inr (.inr g))))) (srcPos := sp) (destPos := dp) (n := n) (by rw [hT]; exact hc0) (by rw [hT]; exact hc1)
    (fun _ h => by cases h) (fun _ h => by cases h) (fun h => by cases h) (fun h => by cases h) hk0 hk1 hkk0 hkk1 rfl h1 h2 h3
    (by rw [g_nn sp h1, g_nn n h3]; show ¬ _ > ((arrV c0 n0' (fun j => va_rf (f j))).slots.size : Int); rw [arrV_size]; omega)
    (by rw [g_nn dp h2, g_nn n h3]; show ¬ _ > ((arrV c1 n1 (fun j => va_rf (g j))).slots.size : Int); rw [arrV_size]; omega)
    (fun vm₁ hal i hi => by
      have e : (vp_cell c0 (n0', .inr (.inr (.inr (.inr f))))).slots.getD (sp.toNatClampNeg + i) .null = va_rf (f (sp.toNatClampNeg + i)) := by
        show (arrV c0 n0' (fun j => va_rf (f j))).slots.getD _ _ = _
        rw [Array.getD_eq_getD_getElem?, arrV_read _ _ (by omega)]
        rfl
      rw [e]
      have hel1 := hel i hi
      cases hy : f (sp.toNatClampNeg + i) with
      | none => exact ⟨rfl, trivial⟩
      | some y =>
        rw [hy] at hel1
        obtain ⟨cellV, g1, g2, ⟨kC, hkC⟩, hasg⟩ := g_any hI hK hH hel1
        obtain ⟨kA, comp, r1, r2, r3, -⟩ := hRA1
        cases hk1.symm.trans r1
        cases hkk1.symm.trans r2
        obtain ⟨kE, hkE, -⟩ := Vm.findClass_spec r3
        obtain ⟨kC', hkC', -⟩ := hal.2.2 _ _ hkC
        obtain ⟨kE', hkE', -⟩ := hal.2.2 _ _ hkE
        refine ⟨rfl, cellV, (show T.heap[y]? = some cellV by rw [hT]; exact g1), (fun q h => by rw [h] at g2; cases g2), ⟨kC', hkC'⟩, ?_, ?_⟩
        · exact ⟨kE', hkE'⟩
        · show vm₁.assignable _ _ = true
          rw [hal.assignable]
          exact hasg _ r3)
    (g := F0 m pc ls ((.inl n :: .inl dp :: .inr (.inr (some a)) :: .inl sp :: .inr (.inr (some a0)) :: st : List gV).map gv)) rfl (by rw [hml]; exact hl.1) (rest := st.map gv) rfl (by rw [hb]; exact hdg) hf (by show 2 * 0 + _ + _ ≤ _; rw [g_sum]; show _ ≤ yW Y; omega)
  have e1 : copied (vp_cell c0 (n0', .inr (.inr (.inr (.inr f))))) (vp_cell c1 (n1, .inr (.inr (.inr (.inr g))))) sp dp n = vp_cell c1 (n1, .inr (.inr (.inr (.inr (va_cpy f g sp.toNatClampNeg dp.toNatClampNeg n.toNatClampNeg))))) := by
    rw [vp_cell_q, vp_cell_q, vp_cell_q]
    exact va_copied (fun z => va_rf z) c0 c1 f g h4
  rw [e1] at X' step
  have hl2 : a < H.size := (Array.getElem?_eq_some_iff.mp hc1).1
  have hheap : ((T.setVm vm').setCell a (vp_cell c1 (n1, .inr (.inr (.inr (.inr (va_cpy f g sp.toNatClampNeg dp.toNatClampNeg n.toNatClampNeg))))))).heap = H.setIfInBounds a (vp_cell c1 (n1, .inr (.inr (.inr (.inr (va_cpy f g sp.toNatClampNeg dp.toNatClampNeg n.toNatClampNeg)))))) := by rw [← hT]; rfl
  have oq : ∀ q : Nat, q ≠ a → (H.setIfInBounds a (vp_cell c1 (n1, .inr (.inr (.inr (.inr (va_cpy f g sp.toNatClampNeg dp.toNatClampNeg n.toNatClampNeg)))))))[q]? = H[q]? := fun q hq => by simp [Array.getElem?_setIfInBounds, Ne.symm hq]
  obtain ⟨t, a1, b1⟩ := kk _ _ (hH.put ⟨hgA, _, hq1, (show (H.setIfInBounds a _)[a]? = some _ by simp [Array.getElem?_setIfInBounds, hl2])⟩ (by simp) oq) ⟨by simp; exact hS.1, fun q g1 g2 => by
      rw [oq q (fun e => g2 (by rw [e]; exact hgA h100))]
      exact hS.2.1 q g1 g2, fun q hq => by
      rcases List.mem_append.mp hq with h | h
      · exact hS.2.2 q h
      · obtain ⟨z, -, hz⟩ := List.mem_map.mp h
        rw [← hz]
        exact hgA h100⟩ _ hheap X'
  exact ⟨t, step t a1, b1⟩
end GX5
end
section
/-! the JDK's own: the empty array of lists, getClass and the mirror of Object[], clone of an int array -/
def gmi (t : Nat) (r : Option Nat) (mm : gM) : Option (Option Nat) := match gar r mm with
  | some x => if x.1 = t then some (some (mm.2.2.2.1 1)) else none
  | none => none
def gclI (t : Nat) (r : Option Nat) (mm : gM) : Option (Option Nat × gM) := match gar r mm with
  | some (t', n, .inl f) => if t' = t then some (some mm.2.1, gN mm (.inl (t, n, .inl f)) n) else none
  | _ => none
def gcsA (t : Nat) (r : Option Nat) (mm : gM) : Option Unit := match gar r mm with
  | some x => if x.1 = t then some () else none
  | none => none
def gCln (own : String) (idx : Nat) : Prop := Cond.methodLink own idx ⟨"[I", "clone", "()Ljava/lang/Object;"⟩ ∈ gT ∧ Cond.sameMethod "[I" "java/lang/Object" "clone" "()Ljava/lang/Object;" ∈ gT ∧ Cond.native ⟨"java/lang/Object", "clone", "()Ljava/lang/Object;"⟩ ∈ gT ∧ Cond.instanceMethod ⟨"java/lang/Object", "clone", "()Ljava/lang/Object;"⟩ ∈ gT ∧ Cond.selects "[I" ⟨"[I", "clone", "()Ljava/lang/Object;"⟩ ⟨"java/lang/Object", "clone", "()Ljava/lang/Object;"⟩ ∈ gT ∧ ("[I", "java/lang/Cloneable") ∈ gNC
section GX6
variable {l : Launch} {E : gD} {Y : gY} {n0 s0 : Nat} {rv : Option Value} {res mm mm1 : gM} {lv lv' : List (Nat × gV)} {st st' : List gV}
theorem x_getS (pc : Nat) {idx : Nat} (w : Cond.fieldLink (yO Y) idx "java/util/ArrayList" "DEFAULTCAPACITY_EMPTY_ELEMENTDATA" "[Ljava/lang/Object;" ∈ gT) (hdg : decode (yB Y) pc = .ok (.getstatic idx, 3)) (kk : xX l E Y n0 s0 rv res (pc + 3) lv (.inr (.inr (some (mm.2.2.2.1 0))) :: st) mm) : xX l E Y n0 s0 rv res pc lv st mm := by
  refine x_same (fun {p e s m args below meth c H locs ls cells slots Q} Cx hH hS hl _ _ kk => ?_) kk
  obtain ⟨hx, hb, hr, hml, hown, hts, hlocks, hname, hK⟩ := Cx
  have hZ := hK.2.2.2.2.2.2.1 _ (List.mem_cons_self (a := ("java/util/ArrayList", "DEFAULTCAPACITY_EMPTY_ELEMENTDATA", "[Ljava/lang/Object;", 0)) (l := []))
  dsimp only at hZ
  rw [← hH.1.2.2] at hZ
  exact va_gets hx hb hZ hS hown (hts _ (List.mem_cons_of_mem _ w)) (fun _ h => h) hdg (kk _ hl)
theorem x_ldcM (pc : Nat) {idx : Nat} (w : Cond.classLink (yO Y) idx "[Ljava/lang/Object;" ∈ gT) (hdg : decode (yB Y) pc = .ok (.ldc idx, 2)) (kk : xX l E Y n0 s0 rv res (pc + 2) lv (.inr (.inr (some (mm.2.2.2.1 1))) :: st) mm) : xX l E Y n0 s0 rv res pc lv st mm := by
  refine x_same (fun {p e s m args below meth c H locs ls cells slots Q} Cx hH hS hl _ _ kk => ?_) kk
  obtain ⟨hx, hb, hr, hml, hown, hts, hlocks, hname, hK⟩ := Cx
  have hM := hK.2.2.2.2.2.2.2.2.1
  rw [← hH.1.2.2] at hM
  exact va_ldcM hx hb hown (hts _ (List.mem_cons_of_mem _ w)) hM hdg (kk _ hl)
theorem x_getC (pc : Nat) {idx : Nat} {r v : Option Nat} (hv : gmi 4 r mm = some v) (w1 : Cond.methodLink (yO Y) idx ⟨"java/lang/Object", "getClass", "()Ljava/lang/Class;"⟩ ∈ gT) (w2 : Cond.selects "[Ljava/lang/Object;" ⟨"java/lang/Object", "getClass", "()Ljava/lang/Class;"⟩ ⟨"java/lang/Object", "getClass", "()Ljava/lang/Class;"⟩ ∈ gT) (w3 : Cond.instanceMethod ⟨"java/lang/Object", "getClass", "()Ljava/lang/Class;"⟩ ∈ gT) (w4 : Cond.native ⟨"java/lang/Object", "getClass", "()Ljava/lang/Class;"⟩ ∈ gT) (hf : 1 ≤ yF Y) (hlo : (st.map gc).sum + 14 ≤ yW Y) (hdg : decode (yB Y) pc = .ok (.invokevirtual idx, 3)) (kk : xX l E Y n0 s0 rv res (pc + 3) lv (.inr (.inr v) :: st) mm) : xX l E Y n0 s0 rv res pc lv (.inr (.inr r) :: st) mm := by
  unfold gmi at hv
  split at hv
  case h_2 => cases hv
  next x hg =>
  by_cases hx4 : x.1 = 4
  case neg => rw [if_neg hx4] at hv; cases hv
  rw [if_pos hx4] at hv
  cases hv
  obtain ⟨a, rfl, hm⟩ := gar_spec hg
  refine x_same (fun {p e s m args below meth c H locs ls cells slots Q} Cx hH hS hl _ _ kk => ?_) kk
  obtain ⟨hx, hb, hr, hml, hown, hts, hlocks, hname, hK⟩ := Cx
  have hM := hK.2.2.2.2.2.2.2.2.1
  have hDc := hK.2.2.2.2.2.2.2.2.2.1
  rw [← hH.1.2.2] at hM
  obtain ⟨-, ⟨cA, ty⟩, hq, hc⟩ := hH.2 a _ hm
  rw [hx4] at hq
  obtain ⟨rfl, -, kA, comp, -, -, -, hNm⟩ := g_ty hK hq (show gTys[4]? = some (.object "java/lang/Object") from rfl)
  refine va_getC hx hb (by rw [hml]; exact hl.1.symm) hown (hts _ (List.mem_cons_of_mem _ w1)) (va_Dc.use hDc) (hts _ (List.mem_cons_of_mem _ w2)) (hts _ (List.mem_cons_of_mem _ w3)) (hts _ (List.mem_cons_of_mem _ w4)) hM ⟨_, hc, ?_, ?_⟩ hf (by rw [g_sum]; exact hlo) hdg (kk _ hl)
  · obtain ⟨t0, n, f | f | f | f | f⟩ := x <;> rfl
  · have hcls : (vp_cell cA x.2).cls = cA := by obtain ⟨t0, n, f | f | f | f | f⟩ := x <;> rfl
    rw [hcls]
    exact hNm
theorem x_cloneI (pc : Nat) {idx t : Nat} {r v : Option Nat} (w : gCln (yO Y) idx) (ht : gTys[t]? = some .int) (hv : gclI t r mm = some (v, mm1)) (hf : 1 ≤ yF Y) (hlo : (st.map gc).sum + 14 ≤ yW Y) (hdg : decode (yB Y) pc = .ok (.invokevirtual idx, 3)) (kk : xX l E Y n0 s0 rv res (pc + 3) lv (.inr (.inr v) :: st) mm1) : xX l E Y n0 s0 rv res pc lv (.inr (.inr r) :: st) mm := by
  obtain ⟨w1, w2, w3, w4, w5, w6⟩ := w
  unfold gclI at hv
  split at hv
  case h_2 => cases hv
  next t' n f hg =>
  by_cases htt : t' = t
  case neg => rw [if_neg htt] at hv; cases hv
  rw [if_pos htt] at hv
  cases hv
  subst htt
  obtain ⟨a, rfl, hm⟩ := gar_spec hg
  refine x_make (mm1 := gN mm _ _) (n := n) rfl (fun {p e s m args below meth c H locs ls cells slots Q} Cx hH hS hl hc1 hc2 kk => ?_) kk
  obtain ⟨hx, hb, hr, hml, hown, hts0, hlocks, hname, hK⟩ := Cx
  have hts : ∀ w ∈ gT, w.before args s = true := fun w h => hts0 w (List.mem_cons_of_mem _ h)
  obtain ⟨h100, ⟨cA, ty⟩, hq, hcell⟩ := hH.2 a _ hm
  have hgA := g_new hH
  have h99 : t' < 100 := by
    have h1 : t' < gTys.length := (List.getElem?_eq_some_iff.mp ht).1
    have h2 : gTys.length ≤ 100 := by decide
    omega
  have hq' : E.2.1[t']? = some (cA, ty) := by
    dsimp only at hq
    rw [Nat.mod_eq_of_lt h99] at hq
    exact hq
  obtain ⟨hty, hAr, hRA⟩ := g_ty hK hq' ht
  dsimp only at hty hcell hRA
  have hty2 : ty = .int := hty
  subst hty2
  have hnm : s.vm.findClass "[I" = some cA := hRA
  obtain ⟨c0, t0', f1, f2, f3⟩ := Cond.castable_spec (va_Nw.use (A := args) rfl (hK.2.2.2.2.1 _ w6))
  cases hnm.symm.trans f1
  intro T hT X
  have hsz : (vp_cell cA (n, .inl f)).slots.size = n := arrV_size _ _ _
  have hcellT : T.heap[a]? = some (vp_cell cA (n, .inl f)) := by rw [hT]; exact hcell
  obtain ⟨-, kA, hkA, comp, hkind⟩ := State.isArrayOf_alike X.warmed.alike (hAr 0 (fun _ => .null))
  obtain ⟨-, kS, hkS, compS, hkindS⟩ := hAr 0 (fun _ => .null)
  obtain ⟨vm', X', stp⟩ := X.cloneArray hx hown (hts _ w1) (hts _ w2) (hts _ w3) (hts _ w4) (hts _ w5) (a := a) (cell := vp_cell cA (n, .inl f)) hcellT (fun k h => by cases h) (fun h => by cases h) hnm f2 f3
    (fun i v hv => by
      have hk' : T.vm.classes[cA]? = some kA := hkA
      have hv2 := va_fit (cA := cA) (n := n) (F := fun j => .int (f j)) (ty := .int) (fun i _ => rfl) i v hv
      show T.fitsSlot cA .none i v = true
      simpa [State.fitsSlot, State.slotType?, hk', hkind] using hv2)
    (g := F0 m pc ls ((.inr (.inr (some a)) :: st : List gV).map gv)) rfl (by rw [hml]; exact hl.1) (rest := st.map gv) rfl (by rw [hb]; exact hdg) hf (by show 2 * 0 + _ + 14 ≤ _; rw [g_sum]; show _ ≤ yW Y; omega) hc1 (by rw [hsz]; exact hc2) (hloader := Vm.clonesLoader_of_array hkS hkindS)
  rw [hsz] at X'
  generalize hH1 : H.push (vp_cell cA (n, .inl f)) = H1
  have z1 : H1.size = H.size + 1 := by rw [← hH1, Array.size_push]
  have e1 : H1[H.size]? = some (vp_cell cA (n, .inl f)) := by rw [← hH1, Array.getElem?_push_size]
  have o1 : ∀ q : Nat, q < H.size → H1[q]? = H[q]? := fun q hq => by rw [← hH1, Array.getElem?_push, if_neg (Nat.ne_of_lt hq)]
  obtain ⟨t2, b1, b2⟩ := kk H1 locs (hH.push ⟨fun _ => hgA, (cA, .int), hq, e1⟩ z1 o1) ⟨Nat.le_trans hS.1 (by omega), fun q h1 h2 => (o1 q (Nat.lt_of_lt_of_le h1 hS.1)).trans (hS.2.1 q h1 h2), hS.2.2⟩
    ((T.setVm vm').pushCell (vp_cell cA (n, .inl f))) (by rw [← hH1, ← hT]; rfl) X'
  refine ⟨t2, stp t2 ?_, b2⟩
  rw [hT, hH.1.1]
  exact b1
theorem x_castI (pc : Nat) {idx t : Nat} {r : Option Nat} {u : Unit} (ht : gTys[t]? = some .int) (hv : gcsA t r mm = some u) (w : Cond.classLink (yO Y) idx "[I" ∈ gT) (hdg : decode (yB Y) pc = .ok (.checkcast idx, 3)) (kk : xX l E Y n0 s0 rv res (pc + 3) lv (.inr (.inr r) :: st) mm) : xX l E Y n0 s0 rv res pc lv (.inr (.inr r) :: st) mm := by
  unfold gcsA at hv
  split at hv
  case h_2 => cases hv
  next x hg =>
  by_cases hxt : x.1 = t
  case neg => rw [if_neg hxt] at hv; cases hv
  obtain ⟨a, rfl, hm⟩ := gar_spec hg
  refine x_same (fun {p e s m args below meth c H locs ls cells slots Q} Cx hH hS hl _ _ kk => ?_) kk
  obtain ⟨hx, hb, hr, hml, hown, hts, hlocks, hname, hK⟩ := Cx
  obtain ⟨-, ⟨cA, ty⟩, hq, hc⟩ := hH.2 a _ hm
  have h99 : t < 100 := by
    have h1 : t < gTys.length := (List.getElem?_eq_some_iff.mp ht).1
    have h2 : gTys.length ≤ 100 := by decide
    omega
  rw [hxt, Nat.mod_eq_of_lt h99] at hq
  obtain ⟨-, -, hRA⟩ := g_ty hK hq ht
  have hnm : s.vm.findClass "[I" = some cA := hRA
  exact va_castA (D := E.1) (cl := gCl) (ws := [(a, .inl (cA, x.2))]) hx hb hown (hts _ (List.mem_cons_of_mem _ w)) (g_one hc) 0 rfl hnm hdg (kk _ hl)
end GX6
end
