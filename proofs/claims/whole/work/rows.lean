section
-- ===== PART A: goes FIRST, ahead of the names: the tables' words, and 'selects' of the private methods out of them =====
/-- a private method of a class that the tables say can be made, by its rows of tables_1 -/
def lw_okq (q : MethodName × Nat) : Prop := (q.1.cls ≠ "java/lang/invoke/MethodHandle" ∧ q.1.cls ≠ "java/lang/invoke/VarHandle") ∧ Cond.instantiable q.1.cls q.2 ∈ tables_1 ∧ Cond.privateMethod q.1 ∈ tables_1 ∧ Cond.instanceMethod q.1 ∈ tables_1
theorem lw_p0 : lw_okq (⟨"java/util/ArrayList", "add", "(Ljava/lang/Object;[Ljava/lang/Object;I)V"⟩, 3) := ⟨⟨by decide +kernel, by decide +kernel⟩, List.mem_of_getElem? (i := 29) (by decide +kernel), List.mem_of_getElem? (i := 171) (by decide +kernel), List.mem_of_getElem? (i := 172) (by decide +kernel)⟩
theorem lw_p1 : lw_okq (⟨"java/util/ArrayList", "grow", "()[Ljava/lang/Object;"⟩, 3) := ⟨⟨by decide +kernel, by decide +kernel⟩, List.mem_of_getElem? (i := 29) (by decide +kernel), List.mem_of_getElem? (i := 175) (by decide +kernel), List.mem_of_getElem? (i := 176) (by decide +kernel)⟩
theorem lw_p2 : lw_okq (⟨"java/util/ArrayList", "grow", "(I)[Ljava/lang/Object;"⟩, 3) := ⟨⟨by decide +kernel, by decide +kernel⟩, List.mem_of_getElem? (i := 29) (by decide +kernel), List.mem_of_getElem? (i := 179) (by decide +kernel), List.mem_of_getElem? (i := 180) (by decide +kernel)⟩
theorem lw_p3 : lw_okq (⟨"ShipSets", "tellerAt", "(I)LShipSets$Teller;"⟩, 7) := ⟨⟨by decide +kernel, by decide +kernel⟩, List.mem_of_getElem? (i := 21) (by decide +kernel), List.mem_of_getElem? (i := 229) (by decide +kernel), List.mem_of_getElem? (i := 230) (by decide +kernel)⟩
theorem lw_p4 : lw_okq (⟨"ShipSets$Teller", "placeOf", "(I)I"⟩, 4) := ⟨⟨by decide +kernel, by decide +kernel⟩, List.mem_of_getElem? (i := 104) (by decide +kernel), List.mem_of_getElem? (i := 269) (by decide +kernel), List.mem_of_getElem? (i := 270) (by decide +kernel)⟩
theorem lw_p5 : lw_okq (⟨"java/util/ArrayList", "rangeCheckForAdd", "(I)V"⟩, 3) := ⟨⟨by decide +kernel, by decide +kernel⟩, List.mem_of_getElem? (i := 29) (by decide +kernel), List.mem_of_getElem? (i := 323) (by decide +kernel), List.mem_of_getElem? (i := 324) (by decide +kernel)⟩
theorem lw_p6 : lw_okq (⟨"ShipSets", "setAt", "(I)LShipSets$ShipSet;"⟩, 7) := ⟨⟨by decide +kernel, by decide +kernel⟩, List.mem_of_getElem? (i := 21) (by decide +kernel), List.mem_of_getElem? (i := 369) (by decide +kernel), List.mem_of_getElem? (i := 370) (by decide +kernel)⟩
theorem lw_p7 : lw_okq (⟨"ShipSets", "countConflicts", "(LShipSets$Holding;)I"⟩, 7) := ⟨⟨by decide +kernel, by decide +kernel⟩, List.mem_of_getElem? (i := 21) (by decide +kernel), List.mem_of_getElem? (i := 378) (by decide +kernel), List.mem_of_getElem? (i := 379) (by decide +kernel)⟩
theorem lw_p8 : lw_okq (⟨"ShipSets", "isInConflict", "(LShipSets$Holding;I)Z"⟩, 7) := ⟨⟨by decide +kernel, by decide +kernel⟩, List.mem_of_getElem? (i := 21) (by decide +kernel), List.mem_of_getElem? (i := 382) (by decide +kernel), List.mem_of_getElem? (i := 383) (by decide +kernel)⟩
theorem lw_p9 : lw_okq (⟨"ShipSets", "valueOn", "(LShipSets$Holding;II)J"⟩, 7) := ⟨⟨by decide +kernel, by decide +kernel⟩, List.mem_of_getElem? (i := 21) (by decide +kernel), List.mem_of_getElem? (i := 386) (by decide +kernel), List.mem_of_getElem? (i := 387) (by decide +kernel)⟩
theorem lw_p10 : lw_okq (⟨"ShipSets", "findCurrent", "(LShipSets$Holding;II)V"⟩, 7) := ⟨⟨by decide +kernel, by decide +kernel⟩, List.mem_of_getElem? (i := 21) (by decide +kernel), List.mem_of_getElem? (i := 390) (by decide +kernel), List.mem_of_getElem? (i := 391) (by decide +kernel)⟩
theorem lw_p11 : lw_okq (⟨"ShipSets", "settledValue", "(LShipSets$Holding;I)J"⟩, 7) := ⟨⟨by decide +kernel, by decide +kernel⟩, List.mem_of_getElem? (i := 21) (by decide +kernel), List.mem_of_getElem? (i := 419) (by decide +kernel), List.mem_of_getElem? (i := 420) (by decide +kernel)⟩
theorem lw_p12 : lw_okq (⟨"ShipSets", "cellInConflict", "(LShipSets$Holding;I)I"⟩, 7) := ⟨⟨by decide +kernel, by decide +kernel⟩, List.mem_of_getElem? (i := 21) (by decide +kernel), List.mem_of_getElem? (i := 456) (by decide +kernel), List.mem_of_getElem? (i := 457) (by decide +kernel)⟩
theorem lw_p13 : lw_okq (⟨"ShipSets$Teller", "lastLostFrom", "(I)I"⟩, 4) := ⟨⟨by decide +kernel, by decide +kernel⟩, List.mem_of_getElem? (i := 104) (by decide +kernel), List.mem_of_getElem? (i := 553) (by decide +kernel), List.mem_of_getElem? (i := 554) (by decide +kernel)⟩
theorem lw_p14 : lw_okq (⟨"ShipSets$Clock", "lineFor", "(J)I"⟩, 3) := ⟨⟨by decide +kernel, by decide +kernel⟩, List.mem_of_getElem? (i := 134) (by decide +kernel), List.mem_of_getElem? (i := 588) (by decide +kernel), List.mem_of_getElem? (i := 589) (by decide +kernel)⟩
theorem lw_p15 : lw_okq (⟨"ShipSetsModel", "isTeller", "(I)Z"⟩, 27) := ⟨⟨by decide +kernel, by decide +kernel⟩, List.mem_of_getElem? (i := 601) (by decide +kernel), List.mem_of_getElem? (i := 698) (by decide +kernel), List.mem_of_getElem? (i := 699) (by decide +kernel)⟩
def lw_privs_1 : List (MethodName × Nat) := [(⟨"java/util/ArrayList", "add", "(Ljava/lang/Object;[Ljava/lang/Object;I)V"⟩, 3), (⟨"java/util/ArrayList", "grow", "()[Ljava/lang/Object;"⟩, 3), (⟨"java/util/ArrayList", "grow", "(I)[Ljava/lang/Object;"⟩, 3), (⟨"ShipSets", "tellerAt", "(I)LShipSets$Teller;"⟩, 7), (⟨"ShipSets$Teller", "placeOf", "(I)I"⟩, 4), (⟨"java/util/ArrayList", "rangeCheckForAdd", "(I)V"⟩, 3), (⟨"ShipSets", "setAt", "(I)LShipSets$ShipSet;"⟩, 7), (⟨"ShipSets", "countConflicts", "(LShipSets$Holding;)I"⟩, 7), (⟨"ShipSets", "isInConflict", "(LShipSets$Holding;I)Z"⟩, 7), (⟨"ShipSets", "valueOn", "(LShipSets$Holding;II)J"⟩, 7), (⟨"ShipSets", "findCurrent", "(LShipSets$Holding;II)V"⟩, 7), (⟨"ShipSets", "settledValue", "(LShipSets$Holding;I)J"⟩, 7), (⟨"ShipSets", "cellInConflict", "(LShipSets$Holding;I)I"⟩, 7), (⟨"ShipSets$Teller", "lastLostFrom", "(I)I"⟩, 4), (⟨"ShipSets$Clock", "lineFor", "(J)I"⟩, 3), (⟨"ShipSetsModel", "isTeller", "(I)Z"⟩, 27)]
theorem lw_r1 : ∀ q ∈ lw_privs_1, lw_okq q := List.forall_mem_cons.mpr ⟨lw_p0, List.forall_mem_cons.mpr ⟨lw_p1, List.forall_mem_cons.mpr ⟨lw_p2, List.forall_mem_cons.mpr ⟨lw_p3, List.forall_mem_cons.mpr ⟨lw_p4, List.forall_mem_cons.mpr ⟨lw_p5, List.forall_mem_cons.mpr ⟨lw_p6, List.forall_mem_cons.mpr ⟨lw_p7, List.forall_mem_cons.mpr ⟨lw_p8, List.forall_mem_cons.mpr ⟨lw_p9, List.forall_mem_cons.mpr ⟨lw_p10, List.forall_mem_cons.mpr ⟨lw_p11, List.forall_mem_cons.mpr ⟨lw_p12, List.forall_mem_cons.mpr ⟨lw_p13, List.forall_mem_cons.mpr ⟨lw_p14, List.forall_mem_cons.mpr ⟨lw_p15, fun _ h => absurd h List.not_mem_nil⟩⟩⟩⟩⟩⟩⟩⟩⟩⟩⟩⟩⟩⟩⟩⟩
theorem lw_p16 : lw_okq (⟨"ShipSetsModel", "told", "(II)I"⟩, 27) := ⟨⟨by decide +kernel, by decide +kernel⟩, List.mem_of_getElem? (i := 601) (by decide +kernel), List.mem_of_getElem? (i := 711) (by decide +kernel), List.mem_of_getElem? (i := 712) (by decide +kernel)⟩
theorem lw_p17 : lw_okq (⟨"ShipSetsModel", "isSet", "(I)Z"⟩, 27) := ⟨⟨by decide +kernel, by decide +kernel⟩, List.mem_of_getElem? (i := 601) (by decide +kernel), List.mem_of_getElem? (i := 727) (by decide +kernel), List.mem_of_getElem? (i := 728) (by decide +kernel)⟩
theorem lw_p18 : lw_okq (⟨"ShipSetsModel", "valueOf", "(IIII)J"⟩, 27) := ⟨⟨by decide +kernel, by decide +kernel⟩, List.mem_of_getElem? (i := 601) (by decide +kernel), List.mem_of_getElem? (i := 731) (by decide +kernel), List.mem_of_getElem? (i := 732) (by decide +kernel)⟩
theorem lw_p19 : lw_okq (⟨"ShipSetsModel", "findCurrent", "(IIII)I"⟩, 27) := ⟨⟨by decide +kernel, by decide +kernel⟩, List.mem_of_getElem? (i := 601) (by decide +kernel), List.mem_of_getElem? (i := 735) (by decide +kernel), List.mem_of_getElem? (i := 736) (by decide +kernel)⟩
theorem lw_p20 : lw_okq (⟨"ShipSetsModel", "isOf", "(IIIII)Z"⟩, 27) := ⟨⟨by decide +kernel, by decide +kernel⟩, List.mem_of_getElem? (i := 601) (by decide +kernel), List.mem_of_getElem? (i := 739) (by decide +kernel), List.mem_of_getElem? (i := 740) (by decide +kernel)⟩
theorem lw_p21 : lw_okq (⟨"ShipSetsModel", "counts", "(IIII)Z"⟩, 27) := ⟨⟨by decide +kernel, by decide +kernel⟩, List.mem_of_getElem? (i := 601) (by decide +kernel), List.mem_of_getElem? (i := 744) (by decide +kernel), List.mem_of_getElem? (i := 745) (by decide +kernel)⟩
theorem lw_p22 : lw_okq (⟨"ShipSetsModel", "isConflict", "(III)Z"⟩, 27) := ⟨⟨by decide +kernel, by decide +kernel⟩, List.mem_of_getElem? (i := 601) (by decide +kernel), List.mem_of_getElem? (i := 752) (by decide +kernel), List.mem_of_getElem? (i := 753) (by decide +kernel)⟩
theorem lw_p23 : lw_okq (⟨"ShipSetsModel", "inBlock", "(II)Z"⟩, 27) := ⟨⟨by decide +kernel, by decide +kernel⟩, List.mem_of_getElem? (i := 601) (by decide +kernel), List.mem_of_getElem? (i := 790) (by decide +kernel), List.mem_of_getElem? (i := 791) (by decide +kernel)⟩
def lw_privs_2 : List (MethodName × Nat) := [(⟨"ShipSetsModel", "told", "(II)I"⟩, 27), (⟨"ShipSetsModel", "isSet", "(I)Z"⟩, 27), (⟨"ShipSetsModel", "valueOf", "(IIII)J"⟩, 27), (⟨"ShipSetsModel", "findCurrent", "(IIII)I"⟩, 27), (⟨"ShipSetsModel", "isOf", "(IIIII)Z"⟩, 27), (⟨"ShipSetsModel", "counts", "(IIII)Z"⟩, 27), (⟨"ShipSetsModel", "isConflict", "(III)Z"⟩, 27), (⟨"ShipSetsModel", "inBlock", "(II)Z"⟩, 27)]
theorem lw_r2 : ∀ q ∈ lw_privs_2, lw_okq q := List.forall_mem_cons.mpr ⟨lw_p16, List.forall_mem_cons.mpr ⟨lw_p17, List.forall_mem_cons.mpr ⟨lw_p18, List.forall_mem_cons.mpr ⟨lw_p19, List.forall_mem_cons.mpr ⟨lw_p20, List.forall_mem_cons.mpr ⟨lw_p21, List.forall_mem_cons.mpr ⟨lw_p22, List.forall_mem_cons.mpr ⟨lw_p23, fun _ h => absurd h List.not_mem_nil⟩⟩⟩⟩⟩⟩⟩⟩
def lw_privs : List (MethodName × Nat) := lw_privs_1 ++ (lw_privs_2)
def lw_tbl : List Cond := k2_sels lw_privs ++ tables_1
theorem lw_privs_ok : ∀ q ∈ lw_privs, lw_okq q := by
  show ∀ q ∈ lw_privs_1 ++ (lw_privs_2), lw_okq q
  exact List.forall_mem_append.mpr ⟨lw_r1, lw_r2⟩
-- own names from here on
def R_S : String := "ShipSets"
def T_S : u_T := fun k => match k with
  | 0 => ("ShipSets", "tellers", "Ljava/util/ArrayList;", true)
  | 1 => ("ShipSets", "sets", "Ljava/util/ArrayList;", true)
  | 2 => ("ShipSets", "settlings", "Ljava/util/ArrayList;", true)
  | 3 => ("ShipSets", "newest", "[LShipSets$Telling;", true)
  | 4 => ("ShipSets", "rights", "[Z", true)
  | 5 => ("ShipSets", "current", "LShipSets$Current;", true)
  | _ => ("ShipSets", "tellings", "I", false)
def ty_S : Nat → FieldType := fun k => match k with
  | 0 => .object "java/util/ArrayList"
  | 1 => .object "java/util/ArrayList"
  | 2 => .object "java/util/ArrayList"
  | 3 => .array (.object "ShipSets$Telling")
  | 4 => .array .boolean
  | 5 => .object "ShipSets$Current"
  | _ => .int
def R_Teller : String := "ShipSets$Teller"
def T_Teller : u_T := fun k => match k with
  | 0 => ("ShipSets$Teller", "told", "Ljava/util/ArrayList;", true)
  | 1 => ("ShipSets$Teller", "blocks", "LShipSets$Blocks;", true)
  | 2 => ("ShipSets$Teller", "clock", "LShipSets$Clock;", true)
  | _ => ("ShipSets$Teller", "closed", "Z", false)
def ty_Teller : Nat → FieldType := fun k => match k with
  | 0 => .object "java/util/ArrayList"
  | 1 => .object "ShipSets$Blocks"
  | 2 => .object "ShipSets$Clock"
  | _ => .boolean
def R_Blocks : String := "ShipSets$Blocks"
def T_Blocks : u_T := fun k => match k with
  | 0 => ("ShipSets$Blocks", "from", "[I", true)
  | 1 => ("ShipSets$Blocks", "to", "[I", true)
  | 2 => ("ShipSets$Blocks", "next", "[I", true)
  | _ => ("ShipSets$Blocks", "count", "I", false)
def ty_Blocks : Nat → FieldType := fun k => match k with
  | 0 => .array .int
  | 1 => .array .int
  | 2 => .array .int
  | _ => .int
def R_Clock : String := "ShipSets$Clock"
def T_Clock : u_T := fun k => match k with
  | 0 => ("ShipSets$Clock", "seconds", "[J", true)
  | 1 => ("ShipSets$Clock", "reals", "[J", true)
  | _ => ("ShipSets$Clock", "count", "I", false)
def ty_Clock : Nat → FieldType := fun k => match k with
  | 0 => .array .long
  | 1 => .array .long
  | _ => .int
def R_ShipSet : String := "ShipSets$ShipSet"
def T_ShipSet : u_T := fun k => match k with
  | 0 => ("ShipSets$ShipSet", "now", "LShipSets$Holding;", true)
  | 1 => ("ShipSets$ShipSet", "shown", "LShipSets$Holding;", true)
  | _ => ("ShipSets$ShipSet", "inBatch", "Z", false)
def ty_ShipSet : Nat → FieldType := fun k => match k with
  | 0 => .object "ShipSets$Holding"
  | 1 => .object "ShipSets$Holding"
  | _ => .boolean
def R_Holding : String := "ShipSets$Holding"
def T_Holding : u_T := fun k => match k with
  | 0 => ("ShipSets$Holding", "toldBy", "[I", true)
  | _ => ("ShipSets$Holding", "settlingBits", "J", false)
def ty_Holding : Nat → FieldType := fun k => match k with
  | 0 => .array .int
  | _ => .long
def R_Settling : String := "ShipSets$Settling"
def T_Settling : u_T := fun k => match k with
  | 0 => ("ShipSets$Settling", "cell", "I", true)
  | 1 => ("ShipSets$Settling", "teller", "I", true)
  | _ => ("ShipSets$Settling", "numbers", "[I", true)
def ty_Settling : Nat → FieldType := fun k => match k with
  | 0 => .int
  | 1 => .int
  | _ => .array .int
def R_Telling : String := "ShipSets$Telling"
def T_Telling : u_T := fun k => match k with
  | 0 => ("ShipSets$Telling", "teller", "I", true)
  | 1 => ("ShipSets$Telling", "order", "I", true)
  | 2 => ("ShipSets$Telling", "number", "I", true)
  | 3 => ("ShipSets$Telling", "cell", "I", true)
  | 4 => ("ShipSets$Telling", "value", "J", true)
  | 5 => ("ShipSets$Telling", "on", "I", true)
  | _ => ("ShipSets$Telling", "earlier", "LShipSets$Telling;", true)
def ty_Telling : Nat → FieldType := fun k => match k with
  | 0 => .int
  | 1 => .int
  | 2 => .int
  | 3 => .int
  | 4 => .long
  | 5 => .int
  | _ => .object "ShipSets$Telling"
def R_Current : String := "ShipSets$Current"
def T_Current : u_T := fun k => match k with
  | 0 => ("ShipSets$Current", "numbers", "[I", true)
  | _ => ("ShipSets$Current", "values", "[J", true)
def ty_Current : Nat → FieldType := fun k => match k with
  | 0 => .array .int
  | _ => .array .long
def R_AL : String := "java/util/ArrayList"
def T_AL : u_T := fun k => match k with
  | 0 => ("java/util/ArrayList", "elementData", "[Ljava/lang/Object;", false)
  | 1 => ("java/util/ArrayList", "size", "I", false)
  | _ => ("java/util/AbstractList", "modCount", "I", false)
def ty_AL : Nat → FieldType := fun k => match k with
  | 0 => .array (.object "java/lang/Object")
  | 1 => .int
  | _ => .int
def R_M : String := "ShipSetsModel"
def T_M : u_T := fun k => match k with
  | 0 => ("ShipSetsModel", "tellers", "I", false)
  | 1 => ("ShipSetsModel", "closed", "[Z", true)
  | 2 => ("ShipSetsModel", "tellings", "I", false)
  | 3 => ("ShipSetsModel", "who", "[I", true)
  | 4 => ("ShipSetsModel", "number", "[I", true)
  | 5 => ("ShipSetsModel", "thing", "[I", true)
  | 6 => ("ShipSetsModel", "kind", "[I", true)
  | 7 => ("ShipSetsModel", "value", "[J", true)
  | 8 => ("ShipSetsModel", "from", "[I", true)
  | 9 => ("ShipSetsModel", "sets", "I", false)
  | 10 => ("ShipSetsModel", "holds", "[Z", true)
  | 11 => ("ShipSetsModel", "settled", "[Z", true)
  | 12 => ("ShipSetsModel", "inBatch", "[Z", true)
  | 13 => ("ShipSetsModel", "settlings", "I", false)
  | 14 => ("ShipSetsModel", "ofThing", "[I", true)
  | 15 => ("ShipSetsModel", "ofKind", "[I", true)
  | 16 => ("ShipSetsModel", "ofTeller", "[I", true)
  | 17 => ("ShipSetsModel", "kept", "[Z", true)
  | 18 => ("ShipSetsModel", "rights", "[Z", true)
  | 19 => ("ShipSetsModel", "blocks", "[I", true)
  | 20 => ("ShipSetsModel", "blockFrom", "[I", true)
  | 21 => ("ShipSetsModel", "blockTo", "[I", true)
  | 22 => ("ShipSetsModel", "given", "[Z", true)
  | 23 => ("ShipSetsModel", "marks", "[I", true)
  | 24 => ("ShipSetsModel", "clock", "[J", true)
  | 25 => ("ShipSetsModel", "real", "[J", true)
  | _ => ("ShipSetsModel", "current", "[Z", true)
def ty_M : Nat → FieldType := fun k => match k with
  | 0 => .int
  | 1 => .array .boolean
  | 2 => .int
  | 3 => .array .int
  | 4 => .array .int
  | 5 => .array .int
  | 6 => .array .int
  | 7 => .array .long
  | 8 => .array .int
  | 9 => .int
  | 10 => .array .boolean
  | 11 => .array .boolean
  | 12 => .array .boolean
  | 13 => .int
  | 14 => .array .int
  | 15 => .array .int
  | 16 => .array .int
  | 17 => .array .boolean
  | 18 => .array .boolean
  | 19 => .array .int
  | 20 => .array .int
  | 21 => .array .int
  | 22 => .array .boolean
  | 23 => .array .int
  | 24 => .array .long
  | 25 => .array .long
  | _ => .array .boolean
def gCl : List vw_C := [(R_S, T_S, 7), (R_Teller, T_Teller, 4), (R_Blocks, T_Blocks, 4), (R_Clock, T_Clock, 3), (R_ShipSet, T_ShipSet, 3), (R_Holding, T_Holding, 2), (R_Settling, T_Settling, 3), (R_Telling, T_Telling, 7), (R_Current, T_Current, 2), (R_AL, T_AL, 3), (R_M, T_M, 27)]
def gTys : List FieldType := [.int, .long, .boolean, .object "ShipSets$Telling", .object "java/lang/Object"]
def gT_0 : List Cond := [(Jvm.Cond.initialized "ShipSetsLaw"), (Jvm.Cond.initialized "ShipSets"), (Jvm.Cond.initialized "java/util/AbstractCollection"), (Jvm.Cond.initialized "java/util/AbstractList"), (Jvm.Cond.initialized "java/util/ArrayList"), (Jvm.Cond.initialized "ShipSets$Current"), (Jvm.Cond.initialized "ShipSetsModel"), (Jvm.Cond.initialized "ShipSets$Teller"), (Jvm.Cond.initialized "ShipSets$Blocks"), (Jvm.Cond.initialized "ShipSets$Clock"), (Jvm.Cond.initialized "jdk/internal/util/ArraysSupport"), (Jvm.Cond.initialized "java/lang/Math"), (Jvm.Cond.initialized "java/util/Arrays"), (Jvm.Cond.initialized "java/lang/System"), (Jvm.Cond.initialized "java/util/Objects"), (Jvm.Cond.initialized "jdk/internal/util/Preconditions"), (Jvm.Cond.initialized "ShipSets$Telling"), (Jvm.Cond.initialized "ShipSets$ShipSet"), (Jvm.Cond.initialized "ShipSets$Holding"), (Jvm.Cond.initialized "ShipSets$Settling"), (Jvm.Cond.classLink "ShipSetsLaw" (7 : Nat) "ShipSets"), (Jvm.Cond.instantiable "ShipSets" (7 : Nat)), (Jvm.Cond.methodLink "ShipSetsLaw" (9 : Nat) ({ cls := "ShipSets", name := "<init>", desc := "()V" } : Jvm.MethodName)), (Jvm.Cond.instanceMethod ({ cls := "ShipSets", name := "<init>", desc := "()V" } : Jvm.MethodName)), (Jvm.Cond.code ({ cls := "ShipSets", name := "<init>", desc := "()V" } : Jvm.MethodName) prog_1_method_1_code (1 : Nat) (Option.none : Option Jvm.ClassFile.FieldType)), (Jvm.Cond.methodLink "ShipSets" (5 : Nat) ({ cls := "java/lang/Object", name := "<init>", desc := "()V" } : Jvm.MethodName)), (Jvm.Cond.instanceMethod ({ cls := "java/lang/Object", name := "<init>", desc := "()V" } : Jvm.MethodName)), (Jvm.Cond.code ({ cls := "java/lang/Object", name := "<init>", desc := "()V" } : Jvm.MethodName) object_method_1_code (1 : Nat) (Option.none : Option Jvm.ClassFile.FieldType)), (Jvm.Cond.classLink "ShipSets" (11 : Nat) "java/util/ArrayList"), (Jvm.Cond.instantiable "java/util/ArrayList" (3 : Nat)), (Jvm.Cond.methodLink "ShipSets" (13 : Nat) ({ cls := "java/util/ArrayList", name := "<init>", desc := "()V" } : Jvm.MethodName)), (Jvm.Cond.instanceMethod ({ cls := "java/util/ArrayList", name := "<init>", desc := "()V" } : Jvm.MethodName)), (Jvm.Cond.code ({ cls := "java/util/ArrayList", name := "<init>", desc := "()V" } : Jvm.MethodName) prog_19_method_2_code (1 : Nat) (Option.none : Option Jvm.ClassFile.FieldType)), (Jvm.Cond.methodLink "java/util/ArrayList" (1 : Nat) ({ cls := "java/util/AbstractList", name := "<init>", desc := "()V" } : Jvm.MethodName)), (Jvm.Cond.instanceMethod ({ cls := "java/util/AbstractList", name := "<init>", desc := "()V" } : Jvm.MethodName)), (Jvm.Cond.code ({ cls := "java/util/AbstractList", name := "<init>", desc := "()V" } : Jvm.MethodName) prog_18_method_1_code (1 : Nat) (Option.none : Option Jvm.ClassFile.FieldType)), (Jvm.Cond.methodLink "java/util/AbstractList" (1 : Nat) ({ cls := "java/util/AbstractCollection", name := "<init>", desc := "()V" } : Jvm.MethodName)), (Jvm.Cond.instanceMethod ({ cls := "java/util/AbstractCollection", name := "<init>", desc := "()V" } : Jvm.MethodName)), (Jvm.Cond.code ({ cls := "java/util/AbstractCollection", name := "<init>", desc := "()V" } : Jvm.MethodName) prog_17_method_1_code (1 : Nat) (Option.none : Option Jvm.ClassFile.FieldType)), (Jvm.Cond.methodLink "java/util/AbstractCollection" (1 : Nat) ({ cls := "java/lang/Object", name := "<init>", desc := "()V" } : Jvm.MethodName)), (Jvm.Cond.fieldLink "java/util/ArrayList" (39 : Nat) "java/util/ArrayList" "DEFAULTCAPACITY_EMPTY_ELEMENTDATA" "[Ljava/lang/Object;"), (Jvm.Cond.fieldLink "java/util/ArrayList" (9 : Nat) "java/util/ArrayList" "elementData" "[Ljava/lang/Object;"), (Jvm.Cond.fieldLink "java/util/ArrayList" (48 : Nat) "java/util/ArrayList" "size" "I"), (Jvm.Cond.fieldLink "java/util/AbstractList" (7 : Nat) "java/util/AbstractList" "modCount" "I"), (Jvm.Cond.fieldLink "java/util/ArrayList" (63 : Nat) "java/util/ArrayList" "modCount" "I"), (Jvm.Cond.sameField "java/util/ArrayList" "java/util/AbstractList" "modCount" "I"), (Jvm.Cond.lays "java/util/ArrayList" "java/util/ArrayList" "elementData" "[Ljava/lang/Object;"), (Jvm.Cond.lays "java/util/ArrayList" "java/util/ArrayList" "size" "I"), (Jvm.Cond.lays "java/util/ArrayList" "java/util/AbstractList" "modCount" "I"), (Jvm.Cond.classLink "ShipSets" (24 : Nat) "ShipSets$Telling"), (Jvm.Cond.classLink "ShipSets" (34 : Nat) "ShipSets$Current"), (Jvm.Cond.instantiable "ShipSets$Current" (2 : Nat)), (Jvm.Cond.instanceMethod ({ cls := "ShipSets$Current", name := "<init>", desc := "()V" } : Jvm.MethodName)), (Jvm.Cond.code ({ cls := "ShipSets$Current", name := "<init>", desc := "()V" } : Jvm.MethodName) prog_4_method_1_code (1 : Nat) (Option.none : Option Jvm.ClassFile.FieldType)), (Jvm.Cond.methodLink "ShipSets$Current" (3 : Nat) ({ cls := "java/lang/Object", name := "<init>", desc := "()V" } : Jvm.MethodName)), (Jvm.Cond.fieldLink "ShipSets$Current" (9 : Nat) "ShipSets$Current" "numbers" "[I"), (Jvm.Cond.fieldLink "ShipSets$Current" (15 : Nat) "ShipSets$Current" "values" "[J"), (Jvm.Cond.laysFinal "ShipSets$Current" "ShipSets$Current" "numbers" "[I"), (Jvm.Cond.laysFinal "ShipSets$Current" "ShipSets$Current" "values" "[J"), (Jvm.Cond.arrayClass Jvm.ClassFile.FieldType.boolean), (Jvm.Cond.arrayClass Jvm.ClassFile.FieldType.int), (Jvm.Cond.arrayClass Jvm.ClassFile.FieldType.long), (Jvm.Cond.fieldLink "ShipSets" (14 : Nat) "ShipSets" "tellers" "Ljava/util/ArrayList;"), (Jvm.Cond.fieldLink "ShipSets" (18 : Nat) "ShipSets" "sets" "Ljava/util/ArrayList;"), (Jvm.Cond.fieldLink "ShipSets" (21 : Nat) "ShipSets" "settlings" "Ljava/util/ArrayList;"), (Jvm.Cond.fieldLink "ShipSets" (26 : Nat) "ShipSets" "newest" "[LShipSets$Telling;"), (Jvm.Cond.fieldLink "ShipSets" (30 : Nat) "ShipSets" "rights" "[Z"), (Jvm.Cond.fieldLink "ShipSets" (37 : Nat) "ShipSets" "current" "LShipSets$Current;"), (Jvm.Cond.fieldLink "ShipSets" (41 : Nat) "ShipSets" "tellings" "I"), (Jvm.Cond.laysFinal "ShipSets" "ShipSets" "tellers" "Ljava/util/ArrayList;"), (Jvm.Cond.laysFinal "ShipSets" "ShipSets" "sets" "Ljava/util/ArrayList;"), (Jvm.Cond.laysFinal "ShipSets" "ShipSets" "settlings" "Ljava/util/ArrayList;"), (Jvm.Cond.laysFinal "ShipSets" "ShipSets" "newest" "[LShipSets$Telling;"), (Jvm.Cond.laysFinal "ShipSets" "ShipSets" "rights" "[Z"), (Jvm.Cond.laysFinal "ShipSets" "ShipSets" "current" "LShipSets$Current;"), (Jvm.Cond.lays "ShipSets" "ShipSets" "tellings" "I"), (Jvm.Cond.methodLink "ShipSetsLaw" (13 : Nat) ({ cls := "ShipSets", name := "teller", desc := "()I" } : Jvm.MethodName)), (Jvm.Cond.instanceMethod ({ cls := "ShipSets", name := "teller", desc := "()I" } : Jvm.MethodName)), (Jvm.Cond.selects "ShipSets" ({ cls := "ShipSets", name := "teller", desc := "()I" } : Jvm.MethodName) ({ cls := "ShipSets", name := "teller", desc := "()I" } : Jvm.MethodName)), (Jvm.Cond.code ({ cls := "ShipSets", name := "teller", desc := "()I" } : Jvm.MethodName) prog_1_method_2_code (1 : Nat) (Option.some Jvm.ClassFile.FieldType.int)), (Jvm.Cond.methodLink "ShipSets" (45 : Nat) ({ cls := "java/util/ArrayList", name := "size", desc := "()I" } : Jvm.MethodName)), (Jvm.Cond.instanceMethod ({ cls := "java/util/ArrayList", name := "size", desc := "()I" } : Jvm.MethodName)), (Jvm.Cond.selects "java/util/ArrayList" ({ cls := "java/util/ArrayList", name := "size", desc := "()I" } : Jvm.MethodName) ({ cls := "java/util/ArrayList", name := "size", desc := "()I" } : Jvm.MethodName)), (Jvm.Cond.code ({ cls := "java/util/ArrayList", name := "size", desc := "()I" } : Jvm.MethodName) prog_19_method_8_code (1 : Nat) (Option.some Jvm.ClassFile.FieldType.int)), (Jvm.Cond.classLink "ShipSets" (49 : Nat) "ShipSets$Teller"), (Jvm.Cond.instantiable "ShipSets$Teller" (4 : Nat)), (Jvm.Cond.instanceMethod ({ cls := "ShipSets$Teller", name := "<init>", desc := "()V" } : Jvm.MethodName)), (Jvm.Cond.code ({ cls := "ShipSets$Teller", name := "<init>", desc := "()V" } : Jvm.MethodName) prog_8_method_1_code (1 : Nat) (Option.none : Option Jvm.ClassFile.FieldType)), (Jvm.Cond.methodLink "ShipSets$Teller" (3 : Nat) ({ cls := "java/lang/Object", name := "<init>", desc := "()V" } : Jvm.MethodName)), (Jvm.Cond.classLink "ShipSets$Teller" (9 : Nat) "java/util/ArrayList"), (Jvm.Cond.methodLink "ShipSets$Teller" (11 : Nat) ({ cls := "java/util/ArrayList", name := "<init>", desc := "()V" } : Jvm.MethodName)), (Jvm.Cond.classLink "ShipSets$Teller" (18 : Nat) "ShipSets$Blocks"), (Jvm.Cond.instantiable "ShipSets$Blocks" (4 : Nat)), (Jvm.Cond.instanceMethod ({ cls := "ShipSets$Blocks", name := "<init>", desc := "()V" } : Jvm.MethodName)), (Jvm.Cond.code ({ cls := "ShipSets$Blocks", name := "<init>", desc := "()V" } : Jvm.MethodName) prog_2_method_1_code (1 : Nat) (Option.none : Option Jvm.ClassFile.FieldType)), (Jvm.Cond.methodLink "ShipSets$Blocks" (3 : Nat) ({ cls := "java/lang/Object", name := "<init>", desc := "()V" } : Jvm.MethodName)), (Jvm.Cond.fieldLink "ShipSets$Blocks" (9 : Nat) "ShipSets$Blocks" "from" "[I"), (Jvm.Cond.fieldLink "ShipSets$Blocks" (15 : Nat) "ShipSets$Blocks" "to" "[I"), (Jvm.Cond.fieldLink "ShipSets$Blocks" (18 : Nat) "ShipSets$Blocks" "next" "[I"), (Jvm.Cond.fieldLink "ShipSets$Blocks" (21 : Nat) "ShipSets$Blocks" "count" "I"), (Jvm.Cond.laysFinal "ShipSets$Blocks" "ShipSets$Blocks" "from" "[I"), (Jvm.Cond.laysFinal "ShipSets$Blocks" "ShipSets$Blocks" "to" "[I"), (Jvm.Cond.laysFinal "ShipSets$Blocks" "ShipSets$Blocks" "next" "[I"), (Jvm.Cond.lays "ShipSets$Blocks" "ShipSets$Blocks" "count" "I"), (Jvm.Cond.classLink "ShipSets$Teller" (25 : Nat) "ShipSets$Clock"), (Jvm.Cond.instantiable "ShipSets$Clock" (3 : Nat)), (Jvm.Cond.instanceMethod ({ cls := "ShipSets$Clock", name := "<init>", desc := "()V" } : Jvm.MethodName)), (Jvm.Cond.code ({ cls := "ShipSets$Clock", name := "<init>", desc := "()V" } : Jvm.MethodName) prog_3_method_1_code (1 : Nat) (Option.none : Option Jvm.ClassFile.FieldType)), (Jvm.Cond.methodLink "ShipSets$Clock" (3 : Nat) ({ cls := "java/lang/Object", name := "<init>", desc := "()V" } : Jvm.MethodName)), (Jvm.Cond.fieldLink "ShipSets$Clock" (9 : Nat) "ShipSets$Clock" "seconds" "[J"), (Jvm.Cond.fieldLink "ShipSets$Clock" (15 : Nat) "ShipSets$Clock" "reals" "[J"), (Jvm.Cond.fieldLink "ShipSets$Clock" (18 : Nat) "ShipSets$Clock" "count" "I"), (Jvm.Cond.laysFinal "ShipSets$Clock" "ShipSets$Clock" "seconds" "[J"), (Jvm.Cond.laysFinal "ShipSets$Clock" "ShipSets$Clock" "reals" "[J"), (Jvm.Cond.lays "ShipSets$Clock" "ShipSets$Clock" "count" "I"), (Jvm.Cond.fieldLink "ShipSets$Teller" (12 : Nat) "ShipSets$Teller" "told" "Ljava/util/ArrayList;"), (Jvm.Cond.fieldLink "ShipSets$Teller" (21 : Nat) "ShipSets$Teller" "blocks" "LShipSets$Blocks;"), (Jvm.Cond.fieldLink "ShipSets$Teller" (28 : Nat) "ShipSets$Teller" "clock" "LShipSets$Clock;"), (Jvm.Cond.fieldLink "ShipSets$Teller" (32 : Nat) "ShipSets$Teller" "closed" "Z"), (Jvm.Cond.laysFinal "ShipSets$Teller" "ShipSets$Teller" "told" "Ljava/util/ArrayList;"), (Jvm.Cond.laysFinal "ShipSets$Teller" "ShipSets$Teller" "blocks" "LShipSets$Blocks;"), (Jvm.Cond.laysFinal "ShipSets$Teller" "ShipSets$Teller" "clock" "LShipSets$Clock;"), (Jvm.Cond.lays "ShipSets$Teller" "ShipSets$Teller" "closed" "Z"), (Jvm.Cond.methodLink "ShipSets" (52 : Nat) ({ cls := "java/util/ArrayList", name := "add", desc := "(Ljava/lang/Object;)Z" } : Jvm.MethodName)), (Jvm.Cond.instanceMethod ({ cls := "java/util/ArrayList", name := "add", desc := "(Ljava/lang/Object;)Z" } : Jvm.MethodName)), (Jvm.Cond.selects "java/util/ArrayList" ({ cls := "java/util/ArrayList", name := "add", desc := "(Ljava/lang/Object;)Z" } : Jvm.MethodName) ({ cls := "java/util/ArrayList", name := "add", desc := "(Ljava/lang/Object;)Z" } : Jvm.MethodName)), (Jvm.Cond.code ({ cls := "java/util/ArrayList", name := "add", desc := "(Ljava/lang/Object;)Z" } : Jvm.MethodName) prog_19_method_25_code (2 : Nat) (Option.some Jvm.ClassFile.FieldType.boolean)), (Jvm.Cond.methodLink "java/util/ArrayList" (131 : Nat) ({ cls := "java/util/ArrayList", name := "add", desc := "(Ljava/lang/Object;[Ljava/lang/Object;I)V" } : Jvm.MethodName)), (Jvm.Cond.instanceMethod ({ cls := "java/util/ArrayList", name := "add", desc := "(Ljava/lang/Object;[Ljava/lang/Object;I)V" } : Jvm.MethodName)), (Jvm.Cond.code ({ cls := "java/util/ArrayList", name := "add", desc := "(Ljava/lang/Object;[Ljava/lang/Object;I)V" } : Jvm.MethodName) prog_19_method_24_code (4 : Nat) (Option.none : Option Jvm.ClassFile.FieldType)), (Jvm.Cond.methodLink "java/util/ArrayList" (129 : Nat) ({ cls := "java/util/ArrayList", name := "grow", desc := "()[Ljava/lang/Object;" } : Jvm.MethodName)), (Jvm.Cond.instanceMethod ({ cls := "java/util/ArrayList", name := "grow", desc := "()[Ljava/lang/Object;" } : Jvm.MethodName)), (Jvm.Cond.code ({ cls := "java/util/ArrayList", name := "grow", desc := "()[Ljava/lang/Object;" } : Jvm.MethodName) prog_19_method_7_code (1 : Nat) (Option.some (Jvm.ClassFile.FieldType.array (Jvm.ClassFile.FieldType.object "java/lang/Object")))), (Jvm.Cond.methodLink "java/util/ArrayList" (69 : Nat) ({ cls := "java/util/ArrayList", name := "grow", desc := "(I)[Ljava/lang/Object;" } : Jvm.MethodName)), (Jvm.Cond.instanceMethod ({ cls := "java/util/ArrayList", name := "grow", desc := "(I)[Ljava/lang/Object;" } : Jvm.MethodName)), (Jvm.Cond.code ({ cls := "java/util/ArrayList", name := "grow", desc := "(I)[Ljava/lang/Object;" } : Jvm.MethodName) prog_19_method_6_code (4 : Nat) (Option.some (Jvm.ClassFile.FieldType.array (Jvm.ClassFile.FieldType.object "java/lang/Object")))), (Jvm.Cond.methodLink "java/util/ArrayList" (73 : Nat) ({ cls := "jdk/internal/util/ArraysSupport", name := "newLength", desc := "(III)I" } : Jvm.MethodName)), (Jvm.Cond.static ({ cls := "jdk/internal/util/ArraysSupport", name := "newLength", desc := "(III)I" } : Jvm.MethodName)), (Jvm.Cond.code ({ cls := "jdk/internal/util/ArraysSupport", name := "newLength", desc := "(III)I" } : Jvm.MethodName) prog_26_method_27_code (4 : Nat) (Option.some Jvm.ClassFile.FieldType.int)), (Jvm.Cond.methodLink "jdk/internal/util/ArraysSupport" (194 : Nat) ({ cls := "java/lang/Math", name := "max", desc := "(II)I" } : Jvm.MethodName)), (Jvm.Cond.static ({ cls := "java/lang/Math", name := "max", desc := "(II)I" } : Jvm.MethodName)), (Jvm.Cond.code ({ cls := "java/lang/Math", name := "max", desc := "(II)I" } : Jvm.MethodName) prog_15_method_65_code (2 : Nat) (Option.some Jvm.ClassFile.FieldType.int)), (Jvm.Cond.constant "jdk/internal/util/ArraysSupport" (200 : Nat) (2147483639 : Int32)), (Jvm.Cond.methodLink "jdk/internal/util/ArraysSupport" (201 : Nat) ({ cls := "jdk/internal/util/ArraysSupport", name := "hugeLength", desc := "(II)I" } : Jvm.MethodName)), (Jvm.Cond.static ({ cls := "jdk/internal/util/ArraysSupport", name := "hugeLength", desc := "(II)I" } : Jvm.MethodName)), (Jvm.Cond.code ({ cls := "jdk/internal/util/ArraysSupport", name := "hugeLength", desc := "(II)I" } : Jvm.MethodName) prog_26_method_28_code (3 : Nat) (Option.some Jvm.ClassFile.FieldType.int)), (Jvm.Cond.methodLink "java/util/ArrayList" (66 : Nat) ({ cls := "java/util/Arrays", name := "copyOf", desc := "([Ljava/lang/Object;I)[Ljava/lang/Object;" } : Jvm.MethodName)), (Jvm.Cond.static ({ cls := "java/util/Arrays", name := "copyOf", desc := "([Ljava/lang/Object;I)[Ljava/lang/Object;" } : Jvm.MethodName)), (Jvm.Cond.code ({ cls := "java/util/Arrays", name := "copyOf", desc := "([Ljava/lang/Object;I)[Ljava/lang/Object;" } : Jvm.MethodName) prog_20_method_119_code (2 : Nat) (Option.some (Jvm.ClassFile.FieldType.array (Jvm.ClassFile.FieldType.object "java/lang/Object")))), (Jvm.Cond.methodLink "java/util/Arrays" (86 : Nat) ({ cls := "java/lang/Object", name := "getClass", desc := "()Ljava/lang/Class;" } : Jvm.MethodName))]
def gT_1 : List Cond := [(Jvm.Cond.instanceMethod ({ cls := "java/lang/Object", name := "getClass", desc := "()Ljava/lang/Class;" } : Jvm.MethodName)), (Jvm.Cond.sameMethod "java/lang/Object" "java/lang/Object" "getClass" "()Ljava/lang/Class;"), (Jvm.Cond.selects "ShipSets" ({ cls := "java/lang/Object", name := "getClass", desc := "()Ljava/lang/Class;" } : Jvm.MethodName) ({ cls := "java/lang/Object", name := "getClass", desc := "()Ljava/lang/Class;" } : Jvm.MethodName)), (Jvm.Cond.selects "ShipSets$Blocks" ({ cls := "java/lang/Object", name := "getClass", desc := "()Ljava/lang/Class;" } : Jvm.MethodName) ({ cls := "java/lang/Object", name := "getClass", desc := "()Ljava/lang/Class;" } : Jvm.MethodName)), (Jvm.Cond.selects "ShipSets$Clock" ({ cls := "java/lang/Object", name := "getClass", desc := "()Ljava/lang/Class;" } : Jvm.MethodName) ({ cls := "java/lang/Object", name := "getClass", desc := "()Ljava/lang/Class;" } : Jvm.MethodName)), (Jvm.Cond.selects "ShipSets$Current" ({ cls := "java/lang/Object", name := "getClass", desc := "()Ljava/lang/Class;" } : Jvm.MethodName) ({ cls := "java/lang/Object", name := "getClass", desc := "()Ljava/lang/Class;" } : Jvm.MethodName)), (Jvm.Cond.selects "ShipSets$Holding" ({ cls := "java/lang/Object", name := "getClass", desc := "()Ljava/lang/Class;" } : Jvm.MethodName) ({ cls := "java/lang/Object", name := "getClass", desc := "()Ljava/lang/Class;" } : Jvm.MethodName)), (Jvm.Cond.selects "ShipSets$Settling" ({ cls := "java/lang/Object", name := "getClass", desc := "()Ljava/lang/Class;" } : Jvm.MethodName) ({ cls := "java/lang/Object", name := "getClass", desc := "()Ljava/lang/Class;" } : Jvm.MethodName)), (Jvm.Cond.selects "ShipSets$ShipSet" ({ cls := "java/lang/Object", name := "getClass", desc := "()Ljava/lang/Class;" } : Jvm.MethodName) ({ cls := "java/lang/Object", name := "getClass", desc := "()Ljava/lang/Class;" } : Jvm.MethodName)), (Jvm.Cond.selects "ShipSets$Teller" ({ cls := "java/lang/Object", name := "getClass", desc := "()Ljava/lang/Class;" } : Jvm.MethodName) ({ cls := "java/lang/Object", name := "getClass", desc := "()Ljava/lang/Class;" } : Jvm.MethodName)), (Jvm.Cond.selects "ShipSets$Telling" ({ cls := "java/lang/Object", name := "getClass", desc := "()Ljava/lang/Class;" } : Jvm.MethodName) ({ cls := "java/lang/Object", name := "getClass", desc := "()Ljava/lang/Class;" } : Jvm.MethodName)), (Jvm.Cond.selects "ShipSetsModel" ({ cls := "java/lang/Object", name := "getClass", desc := "()Ljava/lang/Class;" } : Jvm.MethodName) ({ cls := "java/lang/Object", name := "getClass", desc := "()Ljava/lang/Class;" } : Jvm.MethodName)), (Jvm.Cond.selects "java/util/ArrayList" ({ cls := "java/lang/Object", name := "getClass", desc := "()Ljava/lang/Class;" } : Jvm.MethodName) ({ cls := "java/lang/Object", name := "getClass", desc := "()Ljava/lang/Class;" } : Jvm.MethodName)), (Jvm.Cond.native ({ cls := "java/lang/Object", name := "getClass", desc := "()Ljava/lang/Class;" } : Jvm.MethodName)), (Jvm.Cond.methodLink "java/util/Arrays" (300 : Nat) ({ cls := "java/util/Arrays", name := "copyOf", desc := "([Ljava/lang/Object;ILjava/lang/Class;)[Ljava/lang/Object;" } : Jvm.MethodName)), (Jvm.Cond.static ({ cls := "java/util/Arrays", name := "copyOf", desc := "([Ljava/lang/Object;ILjava/lang/Class;)[Ljava/lang/Object;" } : Jvm.MethodName)), (Jvm.Cond.code ({ cls := "java/util/Arrays", name := "copyOf", desc := "([Ljava/lang/Object;ILjava/lang/Class;)[Ljava/lang/Object;" } : Jvm.MethodName) prog_20_method_120_code (4 : Nat) (Option.some (Jvm.ClassFile.FieldType.array (Jvm.ClassFile.FieldType.object "java/lang/Object")))), (Jvm.Cond.classLink "java/util/Arrays" (110 : Nat) "[Ljava/lang/Object;"), (Jvm.Cond.classLink "java/util/Arrays" (2 : Nat) "java/lang/Object"), (Jvm.Cond.methodLink "java/util/Arrays" (304 : Nat) ({ cls := "java/lang/Math", name := "min", desc := "(II)I" } : Jvm.MethodName)), (Jvm.Cond.static ({ cls := "java/lang/Math", name := "min", desc := "(II)I" } : Jvm.MethodName)), (Jvm.Cond.code ({ cls := "java/lang/Math", name := "min", desc := "(II)I" } : Jvm.MethodName) prog_15_method_69_code (2 : Nat) (Option.some Jvm.ClassFile.FieldType.int)), (Jvm.Cond.methodLink "java/util/Arrays" (150 : Nat) ({ cls := "java/lang/System", name := "arraycopy", desc := "(Ljava/lang/Object;ILjava/lang/Object;II)V" } : Jvm.MethodName)), (Jvm.Cond.static ({ cls := "java/lang/System", name := "arraycopy", desc := "(Ljava/lang/Object;ILjava/lang/Object;II)V" } : Jvm.MethodName)), (Jvm.Cond.native ({ cls := "java/lang/System", name := "arraycopy", desc := "(Ljava/lang/Object;ILjava/lang/Object;II)V" } : Jvm.MethodName)), (Jvm.Cond.methodLink "java/util/ArrayList" (79 : Nat) ({ cls := "java/lang/Math", name := "max", desc := "(II)I" } : Jvm.MethodName)), (Jvm.Cond.classLink "java/util/ArrayList" (7 : Nat) "java/lang/Object"), (Jvm.Cond.methodLink "ShipSetsLaw" (20 : Nat) ({ cls := "ShipSets", name := "tell", desc := "(IIIIJI)I" } : Jvm.MethodName)), (Jvm.Cond.instanceMethod ({ cls := "ShipSets", name := "tell", desc := "(IIIIJI)I" } : Jvm.MethodName)), (Jvm.Cond.selects "ShipSets" ({ cls := "ShipSets", name := "tell", desc := "(IIIIJI)I" } : Jvm.MethodName) ({ cls := "ShipSets", name := "tell", desc := "(IIIIJI)I" } : Jvm.MethodName)), (Jvm.Cond.code ({ cls := "ShipSets", name := "tell", desc := "(IIIIJI)I" } : Jvm.MethodName) prog_1_method_3_code (12 : Nat) (Option.some Jvm.ClassFile.FieldType.int)), (Jvm.Cond.methodLink "ShipSets" (56 : Nat) ({ cls := "ShipSets", name := "tellerAt", desc := "(I)LShipSets$Teller;" } : Jvm.MethodName)), (Jvm.Cond.instanceMethod ({ cls := "ShipSets", name := "tellerAt", desc := "(I)LShipSets$Teller;" } : Jvm.MethodName)), (Jvm.Cond.code ({ cls := "ShipSets", name := "tellerAt", desc := "(I)LShipSets$Teller;" } : Jvm.MethodName) prog_1_method_27_code (2 : Nat) (Option.some (Jvm.ClassFile.FieldType.object "ShipSets$Teller"))), (Jvm.Cond.methodLink "ShipSets" (208 : Nat) ({ cls := "java/util/ArrayList", name := "get", desc := "(I)Ljava/lang/Object;" } : Jvm.MethodName)), (Jvm.Cond.instanceMethod ({ cls := "java/util/ArrayList", name := "get", desc := "(I)Ljava/lang/Object;" } : Jvm.MethodName)), (Jvm.Cond.selects "java/util/ArrayList" ({ cls := "java/util/ArrayList", name := "get", desc := "(I)Ljava/lang/Object;" } : Jvm.MethodName) ({ cls := "java/util/ArrayList", name := "get", desc := "(I)Ljava/lang/Object;" } : Jvm.MethodName)), (Jvm.Cond.code ({ cls := "java/util/ArrayList", name := "get", desc := "(I)Ljava/lang/Object;" } : Jvm.MethodName) prog_19_method_20_code (2 : Nat) (Option.some (Jvm.ClassFile.FieldType.object "java/lang/Object"))), (Jvm.Cond.methodLink "java/util/ArrayList" (118 : Nat) ({ cls := "java/util/Objects", name := "checkIndex", desc := "(II)I" } : Jvm.MethodName)), (Jvm.Cond.static ({ cls := "java/util/Objects", name := "checkIndex", desc := "(II)I" } : Jvm.MethodName)), (Jvm.Cond.code ({ cls := "java/util/Objects", name := "checkIndex", desc := "(II)I" } : Jvm.MethodName) prog_23_method_17_code (2 : Nat) (Option.some Jvm.ClassFile.FieldType.int)), (Jvm.Cond.methodLink "java/util/Objects" (105 : Nat) ({ cls := "jdk/internal/util/Preconditions", name := "checkIndex", desc := "(IILjava/util/function/BiFunction;)I" } : Jvm.MethodName)), (Jvm.Cond.static ({ cls := "jdk/internal/util/Preconditions", name := "checkIndex", desc := "(IILjava/util/function/BiFunction;)I" } : Jvm.MethodName)), (Jvm.Cond.code ({ cls := "jdk/internal/util/Preconditions", name := "checkIndex", desc := "(IILjava/util/function/BiFunction;)I" } : Jvm.MethodName) prog_27_method_11_code (3 : Nat) (Option.some Jvm.ClassFile.FieldType.int)), (Jvm.Cond.methodLink "java/util/ArrayList" (123 : Nat) ({ cls := "java/util/ArrayList", name := "elementData", desc := "(I)Ljava/lang/Object;" } : Jvm.MethodName)), (Jvm.Cond.instanceMethod ({ cls := "java/util/ArrayList", name := "elementData", desc := "(I)Ljava/lang/Object;" } : Jvm.MethodName)), (Jvm.Cond.selects "java/util/ArrayList" ({ cls := "java/util/ArrayList", name := "elementData", desc := "(I)Ljava/lang/Object;" } : Jvm.MethodName) ({ cls := "java/util/ArrayList", name := "elementData", desc := "(I)Ljava/lang/Object;" } : Jvm.MethodName)), (Jvm.Cond.code ({ cls := "java/util/ArrayList", name := "elementData", desc := "(I)Ljava/lang/Object;" } : Jvm.MethodName) prog_19_method_18_code (2 : Nat) (Option.some (Jvm.ClassFile.FieldType.object "java/lang/Object"))), (Jvm.Cond.methodLink "ShipSets" (60 : Nat) ({ cls := "ShipSets", name := "cellOf", desc := "(II)I" } : Jvm.MethodName)), (Jvm.Cond.static ({ cls := "ShipSets", name := "cellOf", desc := "(II)I" } : Jvm.MethodName)), (Jvm.Cond.code ({ cls := "ShipSets", name := "cellOf", desc := "(II)I" } : Jvm.MethodName) prog_1_method_26_code (2 : Nat) (Option.some Jvm.ClassFile.FieldType.int)), (Jvm.Cond.methodLink "ShipSets" (168 : Nat) ({ cls := "ShipSets", name := "isKind", desc := "(I)Z" } : Jvm.MethodName)), (Jvm.Cond.static ({ cls := "ShipSets", name := "isKind", desc := "(I)Z" } : Jvm.MethodName)), (Jvm.Cond.code ({ cls := "ShipSets", name := "isKind", desc := "(I)Z" } : Jvm.MethodName) prog_1_method_21_code (1 : Nat) (Option.some Jvm.ClassFile.FieldType.boolean)), (Jvm.Cond.methodLink "ShipSets" (64 : Nat) ({ cls := "ShipSets", name := "isNumber", desc := "(I)Z" } : Jvm.MethodName)), (Jvm.Cond.static ({ cls := "ShipSets", name := "isNumber", desc := "(I)Z" } : Jvm.MethodName)), (Jvm.Cond.code ({ cls := "ShipSets", name := "isNumber", desc := "(I)Z" } : Jvm.MethodName) prog_1_method_20_code (1 : Nat) (Option.some Jvm.ClassFile.FieldType.boolean)), (Jvm.Cond.methodLink "ShipSets" (68 : Nat) ({ cls := "ShipSets", name := "isValue", desc := "(J)Z" } : Jvm.MethodName)), (Jvm.Cond.static ({ cls := "ShipSets", name := "isValue", desc := "(J)Z" } : Jvm.MethodName)), (Jvm.Cond.code ({ cls := "ShipSets", name := "isValue", desc := "(J)Z" } : Jvm.MethodName) prog_1_method_22_code (2 : Nat) (Option.some Jvm.ClassFile.FieldType.boolean)), (Jvm.Cond.constantLong "ShipSets" (204 : Nat) (-1000000000 : Int64)), (Jvm.Cond.constantLong "ShipSets" (206 : Nat) (1000000000 : Int64)), (Jvm.Cond.methodLink "ShipSets" (72 : Nat) ({ cls := "ShipSets", name := "isDay", desc := "(I)Z" } : Jvm.MethodName)), (Jvm.Cond.static ({ cls := "ShipSets", name := "isDay", desc := "(I)Z" } : Jvm.MethodName)), (Jvm.Cond.code ({ cls := "ShipSets", name := "isDay", desc := "(I)Z" } : Jvm.MethodName) prog_1_method_23_code (1 : Nat) (Option.some Jvm.ClassFile.FieldType.boolean)), (Jvm.Cond.constant "ShipSets" (136 : Nat) (100000 : Int32)), (Jvm.Cond.methodLink "ShipSets" (75 : Nat) ({ cls := "ShipSets$Teller", name := "toldWith", desc := "(I)LShipSets$Telling;" } : Jvm.MethodName)), (Jvm.Cond.instanceMethod ({ cls := "ShipSets$Teller", name := "toldWith", desc := "(I)LShipSets$Telling;" } : Jvm.MethodName)), (Jvm.Cond.selects "ShipSets$Teller" ({ cls := "ShipSets$Teller", name := "toldWith", desc := "(I)LShipSets$Telling;" } : Jvm.MethodName) ({ cls := "ShipSets$Teller", name := "toldWith", desc := "(I)LShipSets$Telling;" } : Jvm.MethodName)), (Jvm.Cond.code ({ cls := "ShipSets$Teller", name := "toldWith", desc := "(I)LShipSets$Telling;" } : Jvm.MethodName) prog_8_method_3_code (4 : Nat) (Option.some (Jvm.ClassFile.FieldType.object "ShipSets$Telling"))), (Jvm.Cond.methodLink "ShipSets$Teller" (50 : Nat) ({ cls := "ShipSets$Teller", name := "placeOf", desc := "(I)I" } : Jvm.MethodName)), (Jvm.Cond.instanceMethod ({ cls := "ShipSets$Teller", name := "placeOf", desc := "(I)I" } : Jvm.MethodName)), (Jvm.Cond.code ({ cls := "ShipSets$Teller", name := "placeOf", desc := "(I)I" } : Jvm.MethodName) prog_8_method_2_code (5 : Nat) (Option.some Jvm.ClassFile.FieldType.int)), (Jvm.Cond.methodLink "ShipSets$Teller" (36 : Nat) ({ cls := "java/util/ArrayList", name := "size", desc := "()I" } : Jvm.MethodName)), (Jvm.Cond.methodLink "ShipSets$Teller" (40 : Nat) ({ cls := "java/util/ArrayList", name := "get", desc := "(I)Ljava/lang/Object;" } : Jvm.MethodName)), (Jvm.Cond.classLink "ShipSets$Teller" (44 : Nat) "ShipSets$Telling"), (Jvm.Cond.methodLink "ShipSets" (79 : Nat) ({ cls := "ShipSets$Telling", name := "says", desc := "(IJI)Z" } : Jvm.MethodName)), (Jvm.Cond.instanceMethod ({ cls := "ShipSets$Telling", name := "says", desc := "(IJI)Z" } : Jvm.MethodName)), (Jvm.Cond.selects "ShipSets$Telling" ({ cls := "ShipSets$Telling", name := "says", desc := "(IJI)Z" } : Jvm.MethodName) ({ cls := "ShipSets$Telling", name := "says", desc := "(IJI)Z" } : Jvm.MethodName)), (Jvm.Cond.code ({ cls := "ShipSets$Telling", name := "says", desc := "(IJI)Z" } : Jvm.MethodName) prog_9_method_2_code (5 : Nat) (Option.some Jvm.ClassFile.FieldType.boolean)), (Jvm.Cond.instantiable "ShipSets$Telling" (7 : Nat)), (Jvm.Cond.methodLink "ShipSets" (90 : Nat) ({ cls := "ShipSets$Telling", name := "<init>", desc := "(IIIIJILShipSets$Telling;)V" } : Jvm.MethodName)), (Jvm.Cond.instanceMethod ({ cls := "ShipSets$Telling", name := "<init>", desc := "(IIIIJILShipSets$Telling;)V" } : Jvm.MethodName)), (Jvm.Cond.code ({ cls := "ShipSets$Telling", name := "<init>", desc := "(IIIIJILShipSets$Telling;)V" } : Jvm.MethodName) prog_9_method_1_code (9 : Nat) (Option.none : Option Jvm.ClassFile.FieldType)), (Jvm.Cond.methodLink "ShipSets$Telling" (1 : Nat) ({ cls := "java/lang/Object", name := "<init>", desc := "()V" } : Jvm.MethodName)), (Jvm.Cond.fieldLink "ShipSets$Telling" (7 : Nat) "ShipSets$Telling" "teller" "I"), (Jvm.Cond.fieldLink "ShipSets$Telling" (13 : Nat) "ShipSets$Telling" "order" "I"), (Jvm.Cond.fieldLink "ShipSets$Telling" (16 : Nat) "ShipSets$Telling" "number" "I"), (Jvm.Cond.fieldLink "ShipSets$Telling" (19 : Nat) "ShipSets$Telling" "cell" "I"), (Jvm.Cond.fieldLink "ShipSets$Telling" (22 : Nat) "ShipSets$Telling" "value" "J"), (Jvm.Cond.fieldLink "ShipSets$Telling" (26 : Nat) "ShipSets$Telling" "on" "I"), (Jvm.Cond.fieldLink "ShipSets$Telling" (29 : Nat) "ShipSets$Telling" "earlier" "LShipSets$Telling;"), (Jvm.Cond.laysFinal "ShipSets$Telling" "ShipSets$Telling" "teller" "I"), (Jvm.Cond.laysFinal "ShipSets$Telling" "ShipSets$Telling" "order" "I"), (Jvm.Cond.laysFinal "ShipSets$Telling" "ShipSets$Telling" "number" "I"), (Jvm.Cond.laysFinal "ShipSets$Telling" "ShipSets$Telling" "cell" "I"), (Jvm.Cond.laysFinal "ShipSets$Telling" "ShipSets$Telling" "value" "J"), (Jvm.Cond.laysFinal "ShipSets$Telling" "ShipSets$Telling" "on" "I"), (Jvm.Cond.laysFinal "ShipSets$Telling" "ShipSets$Telling" "earlier" "LShipSets$Telling;"), (Jvm.Cond.methodLink "ShipSets" (93 : Nat) ({ cls := "ShipSets$Teller", name := "keep", desc := "(LShipSets$Telling;)V" } : Jvm.MethodName)), (Jvm.Cond.instanceMethod ({ cls := "ShipSets$Teller", name := "keep", desc := "(LShipSets$Telling;)V" } : Jvm.MethodName)), (Jvm.Cond.selects "ShipSets$Teller" ({ cls := "ShipSets$Teller", name := "keep", desc := "(LShipSets$Telling;)V" } : Jvm.MethodName) ({ cls := "ShipSets$Teller", name := "keep", desc := "(LShipSets$Telling;)V" } : Jvm.MethodName)), (Jvm.Cond.code ({ cls := "ShipSets$Teller", name := "keep", desc := "(LShipSets$Telling;)V" } : Jvm.MethodName) prog_8_method_4_code (2 : Nat) (Option.none : Option Jvm.ClassFile.FieldType)), (Jvm.Cond.methodLink "ShipSets$Teller" (54 : Nat) ({ cls := "java/util/ArrayList", name := "add", desc := "(ILjava/lang/Object;)V" } : Jvm.MethodName)), (Jvm.Cond.instanceMethod ({ cls := "java/util/ArrayList", name := "add", desc := "(ILjava/lang/Object;)V" } : Jvm.MethodName)), (Jvm.Cond.selects "java/util/ArrayList" ({ cls := "java/util/ArrayList", name := "add", desc := "(ILjava/lang/Object;)V" } : Jvm.MethodName) ({ cls := "java/util/ArrayList", name := "add", desc := "(ILjava/lang/Object;)V" } : Jvm.MethodName)), (Jvm.Cond.code ({ cls := "java/util/ArrayList", name := "add", desc := "(ILjava/lang/Object;)V" } : Jvm.MethodName) prog_19_method_26_code (5 : Nat) (Option.none : Option Jvm.ClassFile.FieldType)), (Jvm.Cond.methodLink "java/util/ArrayList" (135 : Nat) ({ cls := "java/util/ArrayList", name := "rangeCheckForAdd", desc := "(I)V" } : Jvm.MethodName)), (Jvm.Cond.instanceMethod ({ cls := "java/util/ArrayList", name := "rangeCheckForAdd", desc := "(I)V" } : Jvm.MethodName)), (Jvm.Cond.code ({ cls := "java/util/ArrayList", name := "rangeCheckForAdd", desc := "(I)V" } : Jvm.MethodName) prog_19_method_45_code (2 : Nat) (Option.none : Option Jvm.ClassFile.FieldType)), (Jvm.Cond.methodLink "java/util/ArrayList" (112 : Nat) ({ cls := "java/lang/System", name := "arraycopy", desc := "(Ljava/lang/Object;ILjava/lang/Object;II)V" } : Jvm.MethodName)), (Jvm.Cond.methodLink "ShipSetsLaw" (25 : Nat) ({ cls := "ShipSets", name := "set", desc := "(I)I" } : Jvm.MethodName)), (Jvm.Cond.instanceMethod ({ cls := "ShipSets", name := "set", desc := "(I)I" } : Jvm.MethodName)), (Jvm.Cond.selects "ShipSets" ({ cls := "ShipSets", name := "set", desc := "(I)I" } : Jvm.MethodName) ({ cls := "ShipSets", name := "set", desc := "(I)I" } : Jvm.MethodName)), (Jvm.Cond.code ({ cls := "ShipSets", name := "set", desc := "(I)I" } : Jvm.MethodName) prog_1_method_4_code (4 : Nat) (Option.some Jvm.ClassFile.FieldType.int)), (Jvm.Cond.classLink "ShipSets" (97 : Nat) "ShipSets$ShipSet"), (Jvm.Cond.instantiable "ShipSets$ShipSet" (3 : Nat)), (Jvm.Cond.instanceMethod ({ cls := "ShipSets$ShipSet", name := "<init>", desc := "()V" } : Jvm.MethodName)), (Jvm.Cond.code ({ cls := "ShipSets$ShipSet", name := "<init>", desc := "()V" } : Jvm.MethodName) prog_7_method_1_code (1 : Nat) (Option.none : Option Jvm.ClassFile.FieldType)), (Jvm.Cond.methodLink "ShipSets$ShipSet" (1 : Nat) ({ cls := "java/lang/Object", name := "<init>", desc := "()V" } : Jvm.MethodName)), (Jvm.Cond.classLink "ShipSets$ShipSet" (7 : Nat) "ShipSets$Holding"), (Jvm.Cond.instantiable "ShipSets$Holding" (2 : Nat)), (Jvm.Cond.instanceMethod ({ cls := "ShipSets$Holding", name := "<init>", desc := "()V" } : Jvm.MethodName)), (Jvm.Cond.code ({ cls := "ShipSets$Holding", name := "<init>", desc := "()V" } : Jvm.MethodName) prog_5_method_1_code (1 : Nat) (Option.none : Option Jvm.ClassFile.FieldType)), (Jvm.Cond.methodLink "ShipSets$Holding" (3 : Nat) ({ cls := "java/lang/Object", name := "<init>", desc := "()V" } : Jvm.MethodName)), (Jvm.Cond.fieldLink "ShipSets$Holding" (9 : Nat) "ShipSets$Holding" "toldBy" "[I"), (Jvm.Cond.fieldLink "ShipSets$Holding" (15 : Nat) "ShipSets$Holding" "settlingBits" "J"), (Jvm.Cond.laysFinal "ShipSets$Holding" "ShipSets$Holding" "toldBy" "[I"), (Jvm.Cond.lays "ShipSets$Holding" "ShipSets$Holding" "settlingBits" "J"), (Jvm.Cond.fieldLink "ShipSets$ShipSet" (10 : Nat) "ShipSets$ShipSet" "now" "LShipSets$Holding;"), (Jvm.Cond.fieldLink "ShipSets$ShipSet" (16 : Nat) "ShipSets$ShipSet" "shown" "LShipSets$Holding;"), (Jvm.Cond.fieldLink "ShipSets$ShipSet" (19 : Nat) "ShipSets$ShipSet" "inBatch" "Z"), (Jvm.Cond.laysFinal "ShipSets$ShipSet" "ShipSets$ShipSet" "now" "LShipSets$Holding;"), (Jvm.Cond.laysFinal "ShipSets$ShipSet" "ShipSets$ShipSet" "shown" "LShipSets$Holding;"), (Jvm.Cond.lays "ShipSets$ShipSet" "ShipSets$ShipSet" "inBatch" "Z"), (Jvm.Cond.methodLink "ShipSetsLaw" (30 : Nat) ({ cls := "ShipSets", name := "join", desc := "(II)I" } : Jvm.MethodName)), (Jvm.Cond.instanceMethod ({ cls := "ShipSets", name := "join", desc := "(II)I" } : Jvm.MethodName)), (Jvm.Cond.selects "ShipSets" ({ cls := "ShipSets", name := "join", desc := "(II)I" } : Jvm.MethodName) ({ cls := "ShipSets", name := "join", desc := "(II)I" } : Jvm.MethodName)), (Jvm.Cond.code ({ cls := "ShipSets", name := "join", desc := "(II)I" } : Jvm.MethodName) prog_1_method_5_code (5 : Nat) (Option.some Jvm.ClassFile.FieldType.int)), (Jvm.Cond.methodLink "ShipSets" (110 : Nat) ({ cls := "ShipSets", name := "setAt", desc := "(I)LShipSets$ShipSet;" } : Jvm.MethodName)), (Jvm.Cond.instanceMethod ({ cls := "ShipSets", name := "setAt", desc := "(I)LShipSets$ShipSet;" } : Jvm.MethodName)), (Jvm.Cond.code ({ cls := "ShipSets", name := "setAt", desc := "(I)LShipSets$ShipSet;" } : Jvm.MethodName) prog_1_method_28_code (2 : Nat) (Option.some (Jvm.ClassFile.FieldType.object "ShipSets$ShipSet"))), (Jvm.Cond.methodLink "ShipSets" (114 : Nat) ({ cls := "ShipSets$Holding", name := "takeAllOf", desc := "(LShipSets$Holding;)V" } : Jvm.MethodName)), (Jvm.Cond.instanceMethod ({ cls := "ShipSets$Holding", name := "takeAllOf", desc := "(LShipSets$Holding;)V" } : Jvm.MethodName)), (Jvm.Cond.selects "ShipSets$Holding" ({ cls := "ShipSets$Holding", name := "takeAllOf", desc := "(LShipSets$Holding;)V" } : Jvm.MethodName) ({ cls := "ShipSets$Holding", name := "takeAllOf", desc := "(LShipSets$Holding;)V" } : Jvm.MethodName)), (Jvm.Cond.code ({ cls := "ShipSets$Holding", name := "takeAllOf", desc := "(LShipSets$Holding;)V" } : Jvm.MethodName) prog_5_method_5_code (3 : Nat) (Option.none : Option Jvm.ClassFile.FieldType)), (Jvm.Cond.methodLink "ShipSets$Holding" (28 : Nat) ({ cls := "java/lang/Math", name := "max", desc := "(II)I" } : Jvm.MethodName)), (Jvm.Cond.methodLink "ShipSets" (118 : Nat) ({ cls := "ShipSets", name := "countConflicts", desc := "(LShipSets$Holding;)I" } : Jvm.MethodName)), (Jvm.Cond.instanceMethod ({ cls := "ShipSets", name := "countConflicts", desc := "(LShipSets$Holding;)I" } : Jvm.MethodName)), (Jvm.Cond.code ({ cls := "ShipSets", name := "countConflicts", desc := "(LShipSets$Holding;)I" } : Jvm.MethodName) prog_1_method_33_code (4 : Nat) (Option.some Jvm.ClassFile.FieldType.int))]
def gT_2 : List Cond := [(Jvm.Cond.methodLink "ShipSets" (250 : Nat) ({ cls := "ShipSets", name := "isInConflict", desc := "(LShipSets$Holding;I)Z" } : Jvm.MethodName)), (Jvm.Cond.instanceMethod ({ cls := "ShipSets", name := "isInConflict", desc := "(LShipSets$Holding;I)Z" } : Jvm.MethodName)), (Jvm.Cond.code ({ cls := "ShipSets", name := "isInConflict", desc := "(LShipSets$Holding;I)Z" } : Jvm.MethodName) prog_1_method_32_code (5 : Nat) (Option.some Jvm.ClassFile.FieldType.boolean)), (Jvm.Cond.methodLink "ShipSets" (128 : Nat) ({ cls := "ShipSets", name := "valueOn", desc := "(LShipSets$Holding;II)J" } : Jvm.MethodName)), (Jvm.Cond.instanceMethod ({ cls := "ShipSets", name := "valueOn", desc := "(LShipSets$Holding;II)J" } : Jvm.MethodName)), (Jvm.Cond.code ({ cls := "ShipSets", name := "valueOn", desc := "(LShipSets$Holding;II)J" } : Jvm.MethodName) prog_1_method_30_code (6 : Nat) (Option.some Jvm.ClassFile.FieldType.long)), (Jvm.Cond.methodLink "ShipSets" (137 : Nat) ({ cls := "ShipSets", name := "findCurrent", desc := "(LShipSets$Holding;II)V" } : Jvm.MethodName)), (Jvm.Cond.instanceMethod ({ cls := "ShipSets", name := "findCurrent", desc := "(LShipSets$Holding;II)V" } : Jvm.MethodName)), (Jvm.Cond.code ({ cls := "ShipSets", name := "findCurrent", desc := "(LShipSets$Holding;II)V" } : Jvm.MethodName) prog_1_method_29_code (5 : Nat) (Option.none : Option Jvm.ClassFile.FieldType)), (Jvm.Cond.methodLink "ShipSets" (212 : Nat) ({ cls := "ShipSets$Current", name := "clear", desc := "()V" } : Jvm.MethodName)), (Jvm.Cond.instanceMethod ({ cls := "ShipSets$Current", name := "clear", desc := "()V" } : Jvm.MethodName)), (Jvm.Cond.selects "ShipSets$Current" ({ cls := "ShipSets$Current", name := "clear", desc := "()V" } : Jvm.MethodName) ({ cls := "ShipSets$Current", name := "clear", desc := "()V" } : Jvm.MethodName)), (Jvm.Cond.code ({ cls := "ShipSets$Current", name := "clear", desc := "()V" } : Jvm.MethodName) prog_4_method_2_code (1 : Nat) (Option.none : Option Jvm.ClassFile.FieldType)), (Jvm.Cond.methodLink "ShipSets$Current" (19 : Nat) ({ cls := "java/util/Arrays", name := "fill", desc := "([II)V" } : Jvm.MethodName)), (Jvm.Cond.static ({ cls := "java/util/Arrays", name := "fill", desc := "([II)V" } : Jvm.MethodName)), (Jvm.Cond.code ({ cls := "java/util/Arrays", name := "fill", desc := "([II)V" } : Jvm.MethodName) prog_20_method_103_code (4 : Nat) (Option.none : Option Jvm.ClassFile.FieldType)), (Jvm.Cond.methodLink "ShipSets" (218 : Nat) ({ cls := "ShipSets$Holding", name := "has", desc := "(LShipSets$Telling;)Z" } : Jvm.MethodName)), (Jvm.Cond.instanceMethod ({ cls := "ShipSets$Holding", name := "has", desc := "(LShipSets$Telling;)Z" } : Jvm.MethodName)), (Jvm.Cond.selects "ShipSets$Holding" ({ cls := "ShipSets$Holding", name := "has", desc := "(LShipSets$Telling;)Z" } : Jvm.MethodName) ({ cls := "ShipSets$Holding", name := "has", desc := "(LShipSets$Telling;)Z" } : Jvm.MethodName)), (Jvm.Cond.code ({ cls := "ShipSets$Holding", name := "has", desc := "(LShipSets$Telling;)Z" } : Jvm.MethodName) prog_5_method_2_code (2 : Nat) (Option.some Jvm.ClassFile.FieldType.boolean)), (Jvm.Cond.methodLink "ShipSets" (221 : Nat) ({ cls := "ShipSets$Current", name := "offer", desc := "(LShipSets$Telling;)V" } : Jvm.MethodName)), (Jvm.Cond.instanceMethod ({ cls := "ShipSets$Current", name := "offer", desc := "(LShipSets$Telling;)V" } : Jvm.MethodName)), (Jvm.Cond.selects "ShipSets$Current" ({ cls := "ShipSets$Current", name := "offer", desc := "(LShipSets$Telling;)V" } : Jvm.MethodName) ({ cls := "ShipSets$Current", name := "offer", desc := "(LShipSets$Telling;)V" } : Jvm.MethodName)), (Jvm.Cond.code ({ cls := "ShipSets$Current", name := "offer", desc := "(LShipSets$Telling;)V" } : Jvm.MethodName) prog_4_method_3_code (2 : Nat) (Option.none : Option Jvm.ClassFile.FieldType)), (Jvm.Cond.methodLink "ShipSets" (228 : Nat) ({ cls := "ShipSets$Current", name := "commonValue", desc := "()J" } : Jvm.MethodName)), (Jvm.Cond.instanceMethod ({ cls := "ShipSets$Current", name := "commonValue", desc := "()J" } : Jvm.MethodName)), (Jvm.Cond.selects "ShipSets$Current" ({ cls := "ShipSets$Current", name := "commonValue", desc := "()J" } : Jvm.MethodName) ({ cls := "ShipSets$Current", name := "commonValue", desc := "()J" } : Jvm.MethodName)), (Jvm.Cond.code ({ cls := "ShipSets$Current", name := "commonValue", desc := "()J" } : Jvm.MethodName) prog_4_method_7_code (4 : Nat) (Option.some Jvm.ClassFile.FieldType.long)), (Jvm.Cond.constantLong "ShipSets$Current" (42 : Nat) (-9223372036854775808 : Int64)), (Jvm.Cond.methodLink "ShipSets$Current" (38 : Nat) ({ cls := "ShipSets$Current", name := "has", desc := "(I)Z" } : Jvm.MethodName)), (Jvm.Cond.instanceMethod ({ cls := "ShipSets$Current", name := "has", desc := "(I)Z" } : Jvm.MethodName)), (Jvm.Cond.selects "ShipSets$Current" ({ cls := "ShipSets$Current", name := "has", desc := "(I)Z" } : Jvm.MethodName) ({ cls := "ShipSets$Current", name := "has", desc := "(I)Z" } : Jvm.MethodName)), (Jvm.Cond.code ({ cls := "ShipSets$Current", name := "has", desc := "(I)Z" } : Jvm.MethodName) prog_4_method_4_code (2 : Nat) (Option.some Jvm.ClassFile.FieldType.boolean)), (Jvm.Cond.constantLong "ShipSets" (126 : Nat) (-9223372036854775808 : Int64)), (Jvm.Cond.methodLink "ShipSets" (232 : Nat) ({ cls := "ShipSets", name := "settledValue", desc := "(LShipSets$Holding;I)J" } : Jvm.MethodName)), (Jvm.Cond.instanceMethod ({ cls := "ShipSets", name := "settledValue", desc := "(LShipSets$Holding;I)J" } : Jvm.MethodName)), (Jvm.Cond.code ({ cls := "ShipSets", name := "settledValue", desc := "(LShipSets$Holding;I)J" } : Jvm.MethodName) prog_1_method_31_code (5 : Nat) (Option.some Jvm.ClassFile.FieldType.long)), (Jvm.Cond.classLink "ShipSets" (151 : Nat) "ShipSets$Settling"), (Jvm.Cond.methodLink "ShipSets" (236 : Nat) ({ cls := "ShipSets$Holding", name := "hasSettling", desc := "(I)Z" } : Jvm.MethodName)), (Jvm.Cond.instanceMethod ({ cls := "ShipSets$Holding", name := "hasSettling", desc := "(I)Z" } : Jvm.MethodName)), (Jvm.Cond.selects "ShipSets$Holding" ({ cls := "ShipSets$Holding", name := "hasSettling", desc := "(I)Z" } : Jvm.MethodName) ({ cls := "ShipSets$Holding", name := "hasSettling", desc := "(I)Z" } : Jvm.MethodName)), (Jvm.Cond.code ({ cls := "ShipSets$Holding", name := "hasSettling", desc := "(I)Z" } : Jvm.MethodName) prog_5_method_3_code (2 : Nat) (Option.some Jvm.ClassFile.FieldType.boolean)), (Jvm.Cond.methodLink "ShipSets" (239 : Nat) ({ cls := "ShipSets$Settling", name := "isMadeFor", desc := "(ILShipSets$Current;)Z" } : Jvm.MethodName)), (Jvm.Cond.instanceMethod ({ cls := "ShipSets$Settling", name := "isMadeFor", desc := "(ILShipSets$Current;)Z" } : Jvm.MethodName)), (Jvm.Cond.selects "ShipSets$Settling" ({ cls := "ShipSets$Settling", name := "isMadeFor", desc := "(ILShipSets$Current;)Z" } : Jvm.MethodName) ({ cls := "ShipSets$Settling", name := "isMadeFor", desc := "(ILShipSets$Current;)Z" } : Jvm.MethodName)), (Jvm.Cond.code ({ cls := "ShipSets$Settling", name := "isMadeFor", desc := "(ILShipSets$Current;)Z" } : Jvm.MethodName) prog_6_method_2_code (4 : Nat) (Option.some Jvm.ClassFile.FieldType.boolean)), (Jvm.Cond.methodLink "ShipSets" (246 : Nat) ({ cls := "ShipSets$Current", name := "valueBy", desc := "(I)J" } : Jvm.MethodName)), (Jvm.Cond.instanceMethod ({ cls := "ShipSets$Current", name := "valueBy", desc := "(I)J" } : Jvm.MethodName)), (Jvm.Cond.selects "ShipSets$Current" ({ cls := "ShipSets$Current", name := "valueBy", desc := "(I)J" } : Jvm.MethodName) ({ cls := "ShipSets$Current", name := "valueBy", desc := "(I)J" } : Jvm.MethodName)), (Jvm.Cond.code ({ cls := "ShipSets$Current", name := "valueBy", desc := "(I)J" } : Jvm.MethodName) prog_4_method_5_code (2 : Nat) (Option.some Jvm.ClassFile.FieldType.long)), (Jvm.Cond.methodLink "ShipSets" (141 : Nat) ({ cls := "ShipSets$Current", name := "count", desc := "()I" } : Jvm.MethodName)), (Jvm.Cond.instanceMethod ({ cls := "ShipSets$Current", name := "count", desc := "()I" } : Jvm.MethodName)), (Jvm.Cond.selects "ShipSets$Current" ({ cls := "ShipSets$Current", name := "count", desc := "()I" } : Jvm.MethodName) ({ cls := "ShipSets$Current", name := "count", desc := "()I" } : Jvm.MethodName)), (Jvm.Cond.code ({ cls := "ShipSets$Current", name := "count", desc := "()I" } : Jvm.MethodName) prog_4_method_6_code (3 : Nat) (Option.some Jvm.ClassFile.FieldType.int)), (Jvm.Cond.methodLink "ShipSetsLaw" (35 : Nat) ({ cls := "ShipSets", name := "equal", desc := "(II)Z" } : Jvm.MethodName)), (Jvm.Cond.instanceMethod ({ cls := "ShipSets", name := "equal", desc := "(II)Z" } : Jvm.MethodName)), (Jvm.Cond.selects "ShipSets" ({ cls := "ShipSets", name := "equal", desc := "(II)Z" } : Jvm.MethodName) ({ cls := "ShipSets", name := "equal", desc := "(II)Z" } : Jvm.MethodName)), (Jvm.Cond.code ({ cls := "ShipSets", name := "equal", desc := "(II)Z" } : Jvm.MethodName) prog_1_method_6_code (5 : Nat) (Option.some Jvm.ClassFile.FieldType.boolean)), (Jvm.Cond.methodLink "ShipSets" (122 : Nat) ({ cls := "ShipSets$Holding", name := "isSameAs", desc := "(LShipSets$Holding;)Z" } : Jvm.MethodName)), (Jvm.Cond.instanceMethod ({ cls := "ShipSets$Holding", name := "isSameAs", desc := "(LShipSets$Holding;)Z" } : Jvm.MethodName)), (Jvm.Cond.selects "ShipSets$Holding" ({ cls := "ShipSets$Holding", name := "isSameAs", desc := "(LShipSets$Holding;)Z" } : Jvm.MethodName) ({ cls := "ShipSets$Holding", name := "isSameAs", desc := "(LShipSets$Holding;)Z" } : Jvm.MethodName)), (Jvm.Cond.code ({ cls := "ShipSets$Holding", name := "isSameAs", desc := "(LShipSets$Holding;)Z" } : Jvm.MethodName) prog_5_method_7_code (3 : Nat) (Option.some Jvm.ClassFile.FieldType.boolean)), (Jvm.Cond.methodLink "ShipSetsLaw" (40 : Nat) ({ cls := "ShipSets", name := "known", desc := "(IIII)J" } : Jvm.MethodName)), (Jvm.Cond.instanceMethod ({ cls := "ShipSets", name := "known", desc := "(IIII)J" } : Jvm.MethodName)), (Jvm.Cond.selects "ShipSets" ({ cls := "ShipSets", name := "known", desc := "(IIII)J" } : Jvm.MethodName) ({ cls := "ShipSets", name := "known", desc := "(IIII)J" } : Jvm.MethodName)), (Jvm.Cond.code ({ cls := "ShipSets", name := "known", desc := "(IIII)J" } : Jvm.MethodName) prog_1_method_7_code (7 : Nat) (Option.some Jvm.ClassFile.FieldType.long)), (Jvm.Cond.methodLink "ShipSetsLaw" (45 : Nat) ({ cls := "ShipSets", name := "conflict", desc := "(III)I" } : Jvm.MethodName)), (Jvm.Cond.instanceMethod ({ cls := "ShipSets", name := "conflict", desc := "(III)I" } : Jvm.MethodName)), (Jvm.Cond.selects "ShipSets" ({ cls := "ShipSets", name := "conflict", desc := "(III)I" } : Jvm.MethodName) ({ cls := "ShipSets", name := "conflict", desc := "(III)I" } : Jvm.MethodName)), (Jvm.Cond.code ({ cls := "ShipSets", name := "conflict", desc := "(III)I" } : Jvm.MethodName) prog_1_method_8_code (6 : Nat) (Option.some Jvm.ClassFile.FieldType.int)), (Jvm.Cond.methodLink "ShipSets" (132 : Nat) ({ cls := "ShipSets", name := "cellInConflict", desc := "(LShipSets$Holding;I)I" } : Jvm.MethodName)), (Jvm.Cond.instanceMethod ({ cls := "ShipSets", name := "cellInConflict", desc := "(LShipSets$Holding;I)I" } : Jvm.MethodName)), (Jvm.Cond.code ({ cls := "ShipSets", name := "cellInConflict", desc := "(LShipSets$Holding;I)I" } : Jvm.MethodName) prog_1_method_34_code (5 : Nat) (Option.some Jvm.ClassFile.FieldType.int)), (Jvm.Cond.methodLink "ShipSetsLaw" (50 : Nat) ({ cls := "ShipSets", name := "settle", desc := "(IIII)I" } : Jvm.MethodName)), (Jvm.Cond.instanceMethod ({ cls := "ShipSets", name := "settle", desc := "(IIII)I" } : Jvm.MethodName)), (Jvm.Cond.selects "ShipSets" ({ cls := "ShipSets", name := "settle", desc := "(IIII)I" } : Jvm.MethodName) ({ cls := "ShipSets", name := "settle", desc := "(IIII)I" } : Jvm.MethodName)), (Jvm.Cond.code ({ cls := "ShipSets", name := "settle", desc := "(IIII)I" } : Jvm.MethodName) prog_1_method_9_code (7 : Nat) (Option.some Jvm.ClassFile.FieldType.int)), (Jvm.Cond.methodLink "ShipSets" (144 : Nat) ({ cls := "ShipSets$Current", name := "has", desc := "(I)Z" } : Jvm.MethodName)), (Jvm.Cond.methodLink "ShipSets" (147 : Nat) ({ cls := "ShipSets$Holding", name := "takeSettling", desc := "(I)V" } : Jvm.MethodName)), (Jvm.Cond.instanceMethod ({ cls := "ShipSets$Holding", name := "takeSettling", desc := "(I)V" } : Jvm.MethodName)), (Jvm.Cond.selects "ShipSets$Holding" ({ cls := "ShipSets$Holding", name := "takeSettling", desc := "(I)V" } : Jvm.MethodName) ({ cls := "ShipSets$Holding", name := "takeSettling", desc := "(I)V" } : Jvm.MethodName)), (Jvm.Cond.code ({ cls := "ShipSets$Holding", name := "takeSettling", desc := "(I)V" } : Jvm.MethodName) prog_5_method_4_code (2 : Nat) (Option.none : Option Jvm.ClassFile.FieldType)), (Jvm.Cond.instantiable "ShipSets$Settling" (3 : Nat)), (Jvm.Cond.methodLink "ShipSets" (153 : Nat) ({ cls := "ShipSets$Settling", name := "<init>", desc := "(IILShipSets$Current;)V" } : Jvm.MethodName)), (Jvm.Cond.instanceMethod ({ cls := "ShipSets$Settling", name := "<init>", desc := "(IILShipSets$Current;)V" } : Jvm.MethodName)), (Jvm.Cond.code ({ cls := "ShipSets$Settling", name := "<init>", desc := "(IILShipSets$Current;)V" } : Jvm.MethodName) prog_6_method_1_code (4 : Nat) (Option.none : Option Jvm.ClassFile.FieldType)), (Jvm.Cond.methodLink "ShipSets$Settling" (3 : Nat) ({ cls := "java/lang/Object", name := "<init>", desc := "()V" } : Jvm.MethodName)), (Jvm.Cond.methodLink "ShipSets$Settling" (24 : Nat) ({ cls := "java/util/Arrays", name := "copyOf", desc := "([II)[I" } : Jvm.MethodName)), (Jvm.Cond.static ({ cls := "java/util/Arrays", name := "copyOf", desc := "([II)[I" } : Jvm.MethodName)), (Jvm.Cond.code ({ cls := "java/util/Arrays", name := "copyOf", desc := "([II)[I" } : Jvm.MethodName) prog_20_method_123_code (3 : Nat) (Option.some (Jvm.ClassFile.FieldType.array Jvm.ClassFile.FieldType.int))), (Jvm.Cond.methodLink "java/util/Arrays" (316 : Nat) ({ cls := "[I", name := "clone", desc := "()Ljava/lang/Object;" } : Jvm.MethodName)), (Jvm.Cond.sameMethod "[I" "java/lang/Object" "clone" "()Ljava/lang/Object;"), (Jvm.Cond.native ({ cls := "java/lang/Object", name := "clone", desc := "()Ljava/lang/Object;" } : Jvm.MethodName)), (Jvm.Cond.instanceMethod ({ cls := "java/lang/Object", name := "clone", desc := "()Ljava/lang/Object;" } : Jvm.MethodName)), (Jvm.Cond.selects "[I" ({ cls := "[I", name := "clone", desc := "()Ljava/lang/Object;" } : Jvm.MethodName) ({ cls := "java/lang/Object", name := "clone", desc := "()Ljava/lang/Object;" } : Jvm.MethodName)), (Jvm.Cond.classLink "java/util/Arrays" (317 : Nat) "[I"), (Jvm.Cond.fieldLink "ShipSets$Settling" (9 : Nat) "ShipSets$Settling" "cell" "I"), (Jvm.Cond.fieldLink "ShipSets$Settling" (15 : Nat) "ShipSets$Settling" "teller" "I"), (Jvm.Cond.fieldLink "ShipSets$Settling" (30 : Nat) "ShipSets$Settling" "numbers" "[I"), (Jvm.Cond.laysFinal "ShipSets$Settling" "ShipSets$Settling" "cell" "I"), (Jvm.Cond.laysFinal "ShipSets$Settling" "ShipSets$Settling" "teller" "I"), (Jvm.Cond.laysFinal "ShipSets$Settling" "ShipSets$Settling" "numbers" "[I"), (Jvm.Cond.methodLink "ShipSetsLaw" (55 : Nat) ({ cls := "ShipSets", name := "batch", desc := "(I)Z" } : Jvm.MethodName)), (Jvm.Cond.instanceMethod ({ cls := "ShipSets", name := "batch", desc := "(I)Z" } : Jvm.MethodName)), (Jvm.Cond.selects "ShipSets" ({ cls := "ShipSets", name := "batch", desc := "(I)Z" } : Jvm.MethodName) ({ cls := "ShipSets", name := "batch", desc := "(I)Z" } : Jvm.MethodName)), (Jvm.Cond.code ({ cls := "ShipSets", name := "batch", desc := "(I)Z" } : Jvm.MethodName) prog_1_method_10_code (3 : Nat) (Option.some Jvm.ClassFile.FieldType.boolean)), (Jvm.Cond.methodLink "ShipSets" (162 : Nat) ({ cls := "ShipSets$Holding", name := "becomeLike", desc := "(LShipSets$Holding;)V" } : Jvm.MethodName)), (Jvm.Cond.instanceMethod ({ cls := "ShipSets$Holding", name := "becomeLike", desc := "(LShipSets$Holding;)V" } : Jvm.MethodName)), (Jvm.Cond.selects "ShipSets$Holding" ({ cls := "ShipSets$Holding", name := "becomeLike", desc := "(LShipSets$Holding;)V" } : Jvm.MethodName) ({ cls := "ShipSets$Holding", name := "becomeLike", desc := "(LShipSets$Holding;)V" } : Jvm.MethodName)), (Jvm.Cond.code ({ cls := "ShipSets$Holding", name := "becomeLike", desc := "(LShipSets$Holding;)V" } : Jvm.MethodName) prog_5_method_6_code (2 : Nat) (Option.none : Option Jvm.ClassFile.FieldType)), (Jvm.Cond.methodLink "ShipSets$Holding" (34 : Nat) ({ cls := "java/lang/System", name := "arraycopy", desc := "(Ljava/lang/Object;ILjava/lang/Object;II)V" } : Jvm.MethodName)), (Jvm.Cond.methodLink "ShipSetsLaw" (60 : Nat) ({ cls := "ShipSets", name := "endBatch", desc := "(I)Z" } : Jvm.MethodName)), (Jvm.Cond.instanceMethod ({ cls := "ShipSets", name := "endBatch", desc := "(I)Z" } : Jvm.MethodName)), (Jvm.Cond.selects "ShipSets" ({ cls := "ShipSets", name := "endBatch", desc := "(I)Z" } : Jvm.MethodName) ({ cls := "ShipSets", name := "endBatch", desc := "(I)Z" } : Jvm.MethodName)), (Jvm.Cond.code ({ cls := "ShipSets", name := "endBatch", desc := "(I)Z" } : Jvm.MethodName) prog_1_method_11_code (3 : Nat) (Option.some Jvm.ClassFile.FieldType.boolean)), (Jvm.Cond.methodLink "ShipSetsLaw" (64 : Nat) ({ cls := "ShipSets", name := "right", desc := "(IIZ)Z" } : Jvm.MethodName)), (Jvm.Cond.instanceMethod ({ cls := "ShipSets", name := "right", desc := "(IIZ)Z" } : Jvm.MethodName)), (Jvm.Cond.selects "ShipSets" ({ cls := "ShipSets", name := "right", desc := "(IIZ)Z" } : Jvm.MethodName) ({ cls := "ShipSets", name := "right", desc := "(IIZ)Z" } : Jvm.MethodName)), (Jvm.Cond.code ({ cls := "ShipSets", name := "right", desc := "(IIZ)Z" } : Jvm.MethodName) prog_1_method_12_code (4 : Nat) (Option.some Jvm.ClassFile.FieldType.boolean)), (Jvm.Cond.methodLink "ShipSets" (165 : Nat) ({ cls := "ShipSets", name := "isPerson", desc := "(I)Z" } : Jvm.MethodName)), (Jvm.Cond.static ({ cls := "ShipSets", name := "isPerson", desc := "(I)Z" } : Jvm.MethodName)), (Jvm.Cond.code ({ cls := "ShipSets", name := "isPerson", desc := "(I)Z" } : Jvm.MethodName) prog_1_method_24_code (1 : Nat) (Option.some Jvm.ClassFile.FieldType.boolean)), (Jvm.Cond.methodLink "ShipSetsLaw" (69 : Nat) ({ cls := "ShipSets", name := "seen", desc := "(IIII)J" } : Jvm.MethodName)), (Jvm.Cond.instanceMethod ({ cls := "ShipSets", name := "seen", desc := "(IIII)J" } : Jvm.MethodName)), (Jvm.Cond.selects "ShipSets" ({ cls := "ShipSets", name := "seen", desc := "(IIII)J" } : Jvm.MethodName) ({ cls := "ShipSets", name := "seen", desc := "(IIII)J" } : Jvm.MethodName)), (Jvm.Cond.code ({ cls := "ShipSets", name := "seen", desc := "(IIII)J" } : Jvm.MethodName) prog_1_method_13_code (7 : Nat) (Option.some Jvm.ClassFile.FieldType.long)), (Jvm.Cond.methodLink "ShipSetsLaw" (73 : Nat) ({ cls := "ShipSets", name := "block", desc := "(III)Z" } : Jvm.MethodName)), (Jvm.Cond.instanceMethod ({ cls := "ShipSets", name := "block", desc := "(III)Z" } : Jvm.MethodName)), (Jvm.Cond.selects "ShipSets" ({ cls := "ShipSets", name := "block", desc := "(III)Z" } : Jvm.MethodName) ({ cls := "ShipSets", name := "block", desc := "(III)Z" } : Jvm.MethodName)), (Jvm.Cond.code ({ cls := "ShipSets", name := "block", desc := "(III)Z" } : Jvm.MethodName) prog_1_method_14_code (5 : Nat) (Option.some Jvm.ClassFile.FieldType.boolean)), (Jvm.Cond.methodLink "ShipSets" (175 : Nat) ({ cls := "ShipSets$Blocks", name := "add", desc := "(II)Z" } : Jvm.MethodName)), (Jvm.Cond.instanceMethod ({ cls := "ShipSets$Blocks", name := "add", desc := "(II)Z" } : Jvm.MethodName)), (Jvm.Cond.selects "ShipSets$Blocks" ({ cls := "ShipSets$Blocks", name := "add", desc := "(II)Z" } : Jvm.MethodName) ({ cls := "ShipSets$Blocks", name := "add", desc := "(II)Z" } : Jvm.MethodName)), (Jvm.Cond.code ({ cls := "ShipSets$Blocks", name := "add", desc := "(II)Z" } : Jvm.MethodName) prog_2_method_2_code (4 : Nat) (Option.some Jvm.ClassFile.FieldType.boolean)), (Jvm.Cond.methodLink "ShipSets$Blocks" (25 : Nat) ({ cls := "ShipSets$Blocks", name := "firstFrom", desc := "(I)I" } : Jvm.MethodName)), (Jvm.Cond.instanceMethod ({ cls := "ShipSets$Blocks", name := "firstFrom", desc := "(I)I" } : Jvm.MethodName)), (Jvm.Cond.selects "ShipSets$Blocks" ({ cls := "ShipSets$Blocks", name := "firstFrom", desc := "(I)I" } : Jvm.MethodName) ({ cls := "ShipSets$Blocks", name := "firstFrom", desc := "(I)I" } : Jvm.MethodName)), (Jvm.Cond.code ({ cls := "ShipSets$Blocks", name := "firstFrom", desc := "(I)I" } : Jvm.MethodName) prog_2_method_3_code (3 : Nat) (Option.some Jvm.ClassFile.FieldType.int)), (Jvm.Cond.methodLink "ShipSets$Blocks" (29 : Nat) ({ cls := "java/lang/Math", name := "max", desc := "(II)I" } : Jvm.MethodName)), (Jvm.Cond.methodLink "ShipSetsLaw" (78 : Nat) ({ cls := "ShipSets", name := "number", desc := "(I)I" } : Jvm.MethodName)), (Jvm.Cond.instanceMethod ({ cls := "ShipSets", name := "number", desc := "(I)I" } : Jvm.MethodName)), (Jvm.Cond.selects "ShipSets" ({ cls := "ShipSets", name := "number", desc := "(I)I" } : Jvm.MethodName) ({ cls := "ShipSets", name := "number", desc := "(I)I" } : Jvm.MethodName)), (Jvm.Cond.code ({ cls := "ShipSets", name := "number", desc := "(I)I" } : Jvm.MethodName) prog_1_method_15_code (3 : Nat) (Option.some Jvm.ClassFile.FieldType.int)), (Jvm.Cond.methodLink "ShipSets" (180 : Nat) ({ cls := "ShipSets$Teller", name := "giveNumber", desc := "()I" } : Jvm.MethodName)), (Jvm.Cond.instanceMethod ({ cls := "ShipSets$Teller", name := "giveNumber", desc := "()I" } : Jvm.MethodName)), (Jvm.Cond.selects "ShipSets$Teller" ({ cls := "ShipSets$Teller", name := "giveNumber", desc := "()I" } : Jvm.MethodName) ({ cls := "ShipSets$Teller", name := "giveNumber", desc := "()I" } : Jvm.MethodName)), (Jvm.Cond.code ({ cls := "ShipSets$Teller", name := "giveNumber", desc := "()I" } : Jvm.MethodName) prog_8_method_5_code (3 : Nat) (Option.some Jvm.ClassFile.FieldType.int)), (Jvm.Cond.methodLink "ShipSets$Teller" (68 : Nat) ({ cls := "ShipSets$Teller", name := "toldWith", desc := "(I)LShipSets$Telling;" } : Jvm.MethodName)), (Jvm.Cond.methodLink "ShipSetsLaw" (82 : Nat) ({ cls := "ShipSets", name := "lost", desc := "(III)I" } : Jvm.MethodName)), (Jvm.Cond.instanceMethod ({ cls := "ShipSets", name := "lost", desc := "(III)I" } : Jvm.MethodName))]
def gT_3 : List Cond := [(Jvm.Cond.selects "ShipSets" ({ cls := "ShipSets", name := "lost", desc := "(III)I" } : Jvm.MethodName) ({ cls := "ShipSets", name := "lost", desc := "(III)I" } : Jvm.MethodName)), (Jvm.Cond.code ({ cls := "ShipSets", name := "lost", desc := "(III)I" } : Jvm.MethodName) prog_1_method_16_code (5 : Nat) (Option.some Jvm.ClassFile.FieldType.int)), (Jvm.Cond.methodLink "ShipSets" (183 : Nat) ({ cls := "ShipSets$Teller", name := "endOfLostSpan", desc := "(II)I" } : Jvm.MethodName)), (Jvm.Cond.instanceMethod ({ cls := "ShipSets$Teller", name := "endOfLostSpan", desc := "(II)I" } : Jvm.MethodName)), (Jvm.Cond.selects "ShipSets$Teller" ({ cls := "ShipSets$Teller", name := "endOfLostSpan", desc := "(II)I" } : Jvm.MethodName) ({ cls := "ShipSets$Teller", name := "endOfLostSpan", desc := "(II)I" } : Jvm.MethodName)), (Jvm.Cond.code ({ cls := "ShipSets$Teller", name := "endOfLostSpan", desc := "(II)I" } : Jvm.MethodName) prog_8_method_6_code (7 : Nat) (Option.some Jvm.ClassFile.FieldType.int)), (Jvm.Cond.methodLink "ShipSets$Teller" (72 : Nat) ({ cls := "java/util/ArrayList", name := "isEmpty", desc := "()Z" } : Jvm.MethodName)), (Jvm.Cond.instanceMethod ({ cls := "java/util/ArrayList", name := "isEmpty", desc := "()Z" } : Jvm.MethodName)), (Jvm.Cond.selects "java/util/ArrayList" ({ cls := "java/util/ArrayList", name := "isEmpty", desc := "()Z" } : Jvm.MethodName) ({ cls := "java/util/ArrayList", name := "isEmpty", desc := "()Z" } : Jvm.MethodName)), (Jvm.Cond.code ({ cls := "java/util/ArrayList", name := "isEmpty", desc := "()Z" } : Jvm.MethodName) prog_19_method_9_code (1 : Nat) (Option.some Jvm.ClassFile.FieldType.boolean)), (Jvm.Cond.methodLink "ShipSets$Teller" (76 : Nat) ({ cls := "ShipSets$Teller", name := "lastLostFrom", desc := "(I)I" } : Jvm.MethodName)), (Jvm.Cond.instanceMethod ({ cls := "ShipSets$Teller", name := "lastLostFrom", desc := "(I)I" } : Jvm.MethodName)), (Jvm.Cond.code ({ cls := "ShipSets$Teller", name := "lastLostFrom", desc := "(I)I" } : Jvm.MethodName) prog_8_method_7_code (4 : Nat) (Option.some Jvm.ClassFile.FieldType.int)), (Jvm.Cond.methodLink "ShipSets$Teller" (88 : Nat) ({ cls := "ShipSets$Blocks", name := "firstFrom", desc := "(I)I" } : Jvm.MethodName)), (Jvm.Cond.methodLink "ShipSets$Teller" (91 : Nat) ({ cls := "java/lang/Math", name := "min", desc := "(II)I" } : Jvm.MethodName)), (Jvm.Cond.methodLink "ShipSets$Teller" (79 : Nat) ({ cls := "ShipSets$Blocks", name := "lastAround", desc := "(I)I" } : Jvm.MethodName)), (Jvm.Cond.instanceMethod ({ cls := "ShipSets$Blocks", name := "lastAround", desc := "(I)I" } : Jvm.MethodName)), (Jvm.Cond.selects "ShipSets$Blocks" ({ cls := "ShipSets$Blocks", name := "lastAround", desc := "(I)I" } : Jvm.MethodName) ({ cls := "ShipSets$Blocks", name := "lastAround", desc := "(I)I" } : Jvm.MethodName)), (Jvm.Cond.code ({ cls := "ShipSets$Blocks", name := "lastAround", desc := "(I)I" } : Jvm.MethodName) prog_2_method_4_code (3 : Nat) (Option.some Jvm.ClassFile.FieldType.int)), (Jvm.Cond.methodLink "ShipSets$Teller" (82 : Nat) ({ cls := "java/lang/Math", name := "max", desc := "(II)I" } : Jvm.MethodName)), (Jvm.Cond.methodLink "ShipSetsLaw" (86 : Nat) ({ cls := "ShipSets", name := "close", desc := "(I)Z" } : Jvm.MethodName)), (Jvm.Cond.instanceMethod ({ cls := "ShipSets", name := "close", desc := "(I)Z" } : Jvm.MethodName)), (Jvm.Cond.selects "ShipSets" ({ cls := "ShipSets", name := "close", desc := "(I)Z" } : Jvm.MethodName) ({ cls := "ShipSets", name := "close", desc := "(I)Z" } : Jvm.MethodName)), (Jvm.Cond.code ({ cls := "ShipSets", name := "close", desc := "(I)Z" } : Jvm.MethodName) prog_1_method_17_code (3 : Nat) (Option.some Jvm.ClassFile.FieldType.boolean)), (Jvm.Cond.methodLink "ShipSetsLaw" (90 : Nat) ({ cls := "ShipSets", name := "mark", desc := "(IJJ)Z" } : Jvm.MethodName)), (Jvm.Cond.instanceMethod ({ cls := "ShipSets", name := "mark", desc := "(IJJ)Z" } : Jvm.MethodName)), (Jvm.Cond.selects "ShipSets" ({ cls := "ShipSets", name := "mark", desc := "(IJJ)Z" } : Jvm.MethodName) ({ cls := "ShipSets", name := "mark", desc := "(IJJ)Z" } : Jvm.MethodName)), (Jvm.Cond.code ({ cls := "ShipSets", name := "mark", desc := "(IJJ)Z" } : Jvm.MethodName) prog_1_method_18_code (7 : Nat) (Option.some Jvm.ClassFile.FieldType.boolean)), (Jvm.Cond.methodLink "ShipSets" (186 : Nat) ({ cls := "ShipSets", name := "isSecond", desc := "(J)Z" } : Jvm.MethodName)), (Jvm.Cond.static ({ cls := "ShipSets", name := "isSecond", desc := "(J)Z" } : Jvm.MethodName)), (Jvm.Cond.code ({ cls := "ShipSets", name := "isSecond", desc := "(J)Z" } : Jvm.MethodName) prog_1_method_25_code (2 : Nat) (Option.some Jvm.ClassFile.FieldType.boolean)), (Jvm.Cond.methodLink "ShipSets" (193 : Nat) ({ cls := "ShipSets$Clock", name := "add", desc := "(JJ)Z" } : Jvm.MethodName)), (Jvm.Cond.instanceMethod ({ cls := "ShipSets$Clock", name := "add", desc := "(JJ)Z" } : Jvm.MethodName)), (Jvm.Cond.selects "ShipSets$Clock" ({ cls := "ShipSets$Clock", name := "add", desc := "(JJ)Z" } : Jvm.MethodName) ({ cls := "ShipSets$Clock", name := "add", desc := "(JJ)Z" } : Jvm.MethodName)), (Jvm.Cond.code ({ cls := "ShipSets$Clock", name := "add", desc := "(JJ)Z" } : Jvm.MethodName) prog_3_method_2_code (5 : Nat) (Option.some Jvm.ClassFile.FieldType.boolean)), (Jvm.Cond.methodLink "ShipSetsLaw" (95 : Nat) ({ cls := "ShipSets", name := "corrected", desc := "(IJI)J" } : Jvm.MethodName)), (Jvm.Cond.instanceMethod ({ cls := "ShipSets", name := "corrected", desc := "(IJI)J" } : Jvm.MethodName)), (Jvm.Cond.selects "ShipSets" ({ cls := "ShipSets", name := "corrected", desc := "(IJI)J" } : Jvm.MethodName) ({ cls := "ShipSets", name := "corrected", desc := "(IJI)J" } : Jvm.MethodName)), (Jvm.Cond.code ({ cls := "ShipSets", name := "corrected", desc := "(IJI)J" } : Jvm.MethodName) prog_1_method_19_code (6 : Nat) (Option.some Jvm.ClassFile.FieldType.long)), (Jvm.Cond.constantLong "ShipSets" (198 : Nat) (-1 : Int64)), (Jvm.Cond.methodLink "ShipSets" (200 : Nat) ({ cls := "ShipSets$Clock", name := "trueSecond", desc := "(JI)J" } : Jvm.MethodName)), (Jvm.Cond.instanceMethod ({ cls := "ShipSets$Clock", name := "trueSecond", desc := "(JI)J" } : Jvm.MethodName)), (Jvm.Cond.selects "ShipSets$Clock" ({ cls := "ShipSets$Clock", name := "trueSecond", desc := "(JI)J" } : Jvm.MethodName) ({ cls := "ShipSets$Clock", name := "trueSecond", desc := "(JI)J" } : Jvm.MethodName)), (Jvm.Cond.code ({ cls := "ShipSets$Clock", name := "trueSecond", desc := "(JI)J" } : Jvm.MethodName) prog_3_method_3_code (11 : Nat) (Option.some Jvm.ClassFile.FieldType.long)), (Jvm.Cond.methodLink "ShipSets$Clock" (22 : Nat) ({ cls := "ShipSets$Clock", name := "lineFor", desc := "(J)I" } : Jvm.MethodName)), (Jvm.Cond.instanceMethod ({ cls := "ShipSets$Clock", name := "lineFor", desc := "(J)I" } : Jvm.MethodName)), (Jvm.Cond.code ({ cls := "ShipSets$Clock", name := "lineFor", desc := "(J)I" } : Jvm.MethodName) prog_3_method_4_code (4 : Nat) (Option.some Jvm.ClassFile.FieldType.int)), (Jvm.Cond.methodLink "ShipSets$Clock" (26 : Nat) ({ cls := "ShipSets$Clock", name := "greatestDivisor", desc := "(JJ)J" } : Jvm.MethodName)), (Jvm.Cond.static ({ cls := "ShipSets$Clock", name := "greatestDivisor", desc := "(JJ)J" } : Jvm.MethodName)), (Jvm.Cond.code ({ cls := "ShipSets$Clock", name := "greatestDivisor", desc := "(JJ)J" } : Jvm.MethodName) prog_3_method_5_code (11 : Nat) (Option.some Jvm.ClassFile.FieldType.long)), (Jvm.Cond.methodLink "ShipSets$Clock" (30 : Nat) ({ cls := "java/lang/Math", name := "abs", desc := "(J)J" } : Jvm.MethodName)), (Jvm.Cond.static ({ cls := "java/lang/Math", name := "abs", desc := "(J)J" } : Jvm.MethodName)), (Jvm.Cond.code ({ cls := "java/lang/Math", name := "abs", desc := "(J)J" } : Jvm.MethodName) prog_15_method_61_code (2 : Nat) (Option.some Jvm.ClassFile.FieldType.long)), (Jvm.Cond.methodLink "ShipSets$Clock" (36 : Nat) ({ cls := "java/lang/Math", name := "max", desc := "(JJ)J" } : Jvm.MethodName)), (Jvm.Cond.static ({ cls := "java/lang/Math", name := "max", desc := "(JJ)J" } : Jvm.MethodName)), (Jvm.Cond.code ({ cls := "java/lang/Math", name := "max", desc := "(JJ)J" } : Jvm.MethodName) prog_15_method_66_code (4 : Nat) (Option.some Jvm.ClassFile.FieldType.long)), (Jvm.Cond.classLink "ShipSetsLaw" (10 : Nat) "ShipSetsModel"), (Jvm.Cond.instantiable "ShipSetsModel" (27 : Nat)), (Jvm.Cond.methodLink "ShipSetsLaw" (12 : Nat) ({ cls := "ShipSetsModel", name := "<init>", desc := "()V" } : Jvm.MethodName)), (Jvm.Cond.instanceMethod ({ cls := "ShipSetsModel", name := "<init>", desc := "()V" } : Jvm.MethodName)), (Jvm.Cond.code ({ cls := "ShipSetsModel", name := "<init>", desc := "()V" } : Jvm.MethodName) prog_11_method_1_code (1 : Nat) (Option.none : Option Jvm.ClassFile.FieldType)), (Jvm.Cond.methodLink "ShipSetsModel" (1 : Nat) ({ cls := "java/lang/Object", name := "<init>", desc := "()V" } : Jvm.MethodName)), (Jvm.Cond.constant "ShipSetsModel" (66 : Nat) (80000 : Int32)), (Jvm.Cond.fieldLink "ShipSetsModel" (82 : Nat) "ShipSetsModel" "tellers" "I"), (Jvm.Cond.fieldLink "ShipSetsModel" (7 : Nat) "ShipSetsModel" "closed" "[Z"), (Jvm.Cond.fieldLink "ShipSetsModel" (89 : Nat) "ShipSetsModel" "tellings" "I"), (Jvm.Cond.fieldLink "ShipSetsModel" (13 : Nat) "ShipSetsModel" "who" "[I"), (Jvm.Cond.fieldLink "ShipSetsModel" (17 : Nat) "ShipSetsModel" "number" "[I"), (Jvm.Cond.fieldLink "ShipSetsModel" (20 : Nat) "ShipSetsModel" "thing" "[I"), (Jvm.Cond.fieldLink "ShipSetsModel" (23 : Nat) "ShipSetsModel" "kind" "[I"), (Jvm.Cond.fieldLink "ShipSetsModel" (26 : Nat) "ShipSetsModel" "value" "[J"), (Jvm.Cond.fieldLink "ShipSetsModel" (30 : Nat) "ShipSetsModel" "from" "[I"), (Jvm.Cond.fieldLink "ShipSetsModel" (86 : Nat) "ShipSetsModel" "sets" "I"), (Jvm.Cond.fieldLink "ShipSetsModel" (33 : Nat) "ShipSetsModel" "holds" "[Z"), (Jvm.Cond.fieldLink "ShipSetsModel" (36 : Nat) "ShipSetsModel" "settled" "[Z"), (Jvm.Cond.fieldLink "ShipSetsModel" (39 : Nat) "ShipSetsModel" "inBatch" "[Z"), (Jvm.Cond.fieldLink "ShipSetsModel" (126 : Nat) "ShipSetsModel" "settlings" "I"), (Jvm.Cond.fieldLink "ShipSetsModel" (42 : Nat) "ShipSetsModel" "ofThing" "[I"), (Jvm.Cond.fieldLink "ShipSetsModel" (45 : Nat) "ShipSetsModel" "ofKind" "[I"), (Jvm.Cond.fieldLink "ShipSetsModel" (48 : Nat) "ShipSetsModel" "ofTeller" "[I"), (Jvm.Cond.fieldLink "ShipSetsModel" (51 : Nat) "ShipSetsModel" "kept" "[Z"), (Jvm.Cond.fieldLink "ShipSetsModel" (54 : Nat) "ShipSetsModel" "rights" "[Z"), (Jvm.Cond.fieldLink "ShipSetsModel" (57 : Nat) "ShipSetsModel" "blocks" "[I"), (Jvm.Cond.fieldLink "ShipSetsModel" (60 : Nat) "ShipSetsModel" "blockFrom" "[I"), (Jvm.Cond.fieldLink "ShipSetsModel" (63 : Nat) "ShipSetsModel" "blockTo" "[I"), (Jvm.Cond.fieldLink "ShipSetsModel" (67 : Nat) "ShipSetsModel" "given" "[Z"), (Jvm.Cond.fieldLink "ShipSetsModel" (70 : Nat) "ShipSetsModel" "marks" "[I"), (Jvm.Cond.fieldLink "ShipSetsModel" (73 : Nat) "ShipSetsModel" "clock" "[J"), (Jvm.Cond.fieldLink "ShipSetsModel" (76 : Nat) "ShipSetsModel" "real" "[J"), (Jvm.Cond.fieldLink "ShipSetsModel" (79 : Nat) "ShipSetsModel" "current" "[Z"), (Jvm.Cond.lays "ShipSetsModel" "ShipSetsModel" "tellers" "I"), (Jvm.Cond.laysFinal "ShipSetsModel" "ShipSetsModel" "closed" "[Z"), (Jvm.Cond.lays "ShipSetsModel" "ShipSetsModel" "tellings" "I"), (Jvm.Cond.laysFinal "ShipSetsModel" "ShipSetsModel" "who" "[I"), (Jvm.Cond.laysFinal "ShipSetsModel" "ShipSetsModel" "number" "[I"), (Jvm.Cond.laysFinal "ShipSetsModel" "ShipSetsModel" "thing" "[I"), (Jvm.Cond.laysFinal "ShipSetsModel" "ShipSetsModel" "kind" "[I"), (Jvm.Cond.laysFinal "ShipSetsModel" "ShipSetsModel" "value" "[J"), (Jvm.Cond.laysFinal "ShipSetsModel" "ShipSetsModel" "from" "[I"), (Jvm.Cond.lays "ShipSetsModel" "ShipSetsModel" "sets" "I"), (Jvm.Cond.laysFinal "ShipSetsModel" "ShipSetsModel" "holds" "[Z"), (Jvm.Cond.laysFinal "ShipSetsModel" "ShipSetsModel" "settled" "[Z"), (Jvm.Cond.laysFinal "ShipSetsModel" "ShipSetsModel" "inBatch" "[Z"), (Jvm.Cond.lays "ShipSetsModel" "ShipSetsModel" "settlings" "I"), (Jvm.Cond.laysFinal "ShipSetsModel" "ShipSetsModel" "ofThing" "[I"), (Jvm.Cond.laysFinal "ShipSetsModel" "ShipSetsModel" "ofKind" "[I"), (Jvm.Cond.laysFinal "ShipSetsModel" "ShipSetsModel" "ofTeller" "[I"), (Jvm.Cond.laysFinal "ShipSetsModel" "ShipSetsModel" "kept" "[Z"), (Jvm.Cond.laysFinal "ShipSetsModel" "ShipSetsModel" "rights" "[Z"), (Jvm.Cond.laysFinal "ShipSetsModel" "ShipSetsModel" "blocks" "[I"), (Jvm.Cond.laysFinal "ShipSetsModel" "ShipSetsModel" "blockFrom" "[I"), (Jvm.Cond.laysFinal "ShipSetsModel" "ShipSetsModel" "blockTo" "[I"), (Jvm.Cond.laysFinal "ShipSetsModel" "ShipSetsModel" "given" "[Z"), (Jvm.Cond.laysFinal "ShipSetsModel" "ShipSetsModel" "marks" "[I"), (Jvm.Cond.laysFinal "ShipSetsModel" "ShipSetsModel" "clock" "[J"), (Jvm.Cond.laysFinal "ShipSetsModel" "ShipSetsModel" "real" "[J"), (Jvm.Cond.laysFinal "ShipSetsModel" "ShipSetsModel" "current" "[Z"), (Jvm.Cond.methodLink "ShipSetsLaw" (17 : Nat) ({ cls := "ShipSetsModel", name := "teller", desc := "()I" } : Jvm.MethodName)), (Jvm.Cond.instanceMethod ({ cls := "ShipSetsModel", name := "teller", desc := "()I" } : Jvm.MethodName)), (Jvm.Cond.selects "ShipSetsModel" ({ cls := "ShipSetsModel", name := "teller", desc := "()I" } : Jvm.MethodName) ({ cls := "ShipSetsModel", name := "teller", desc := "()I" } : Jvm.MethodName)), (Jvm.Cond.code ({ cls := "ShipSetsModel", name := "teller", desc := "()I" } : Jvm.MethodName) prog_11_method_6_code (1 : Nat) (Option.some Jvm.ClassFile.FieldType.int)), (Jvm.Cond.methodLink "ShipSetsLaw" (24 : Nat) ({ cls := "ShipSetsModel", name := "tell", desc := "(IIIIJI)I" } : Jvm.MethodName)), (Jvm.Cond.instanceMethod ({ cls := "ShipSetsModel", name := "tell", desc := "(IIIIJI)I" } : Jvm.MethodName)), (Jvm.Cond.selects "ShipSetsModel" ({ cls := "ShipSetsModel", name := "tell", desc := "(IIIIJI)I" } : Jvm.MethodName) ({ cls := "ShipSetsModel", name := "tell", desc := "(IIIIJI)I" } : Jvm.MethodName)), (Jvm.Cond.code ({ cls := "ShipSetsModel", name := "tell", desc := "(IIIIJI)I" } : Jvm.MethodName) prog_11_method_8_code (10 : Nat) (Option.some Jvm.ClassFile.FieldType.int)), (Jvm.Cond.methodLink "ShipSetsModel" (92 : Nat) ({ cls := "ShipSetsModel", name := "isTeller", desc := "(I)Z" } : Jvm.MethodName)), (Jvm.Cond.instanceMethod ({ cls := "ShipSetsModel", name := "isTeller", desc := "(I)Z" } : Jvm.MethodName)), (Jvm.Cond.code ({ cls := "ShipSetsModel", name := "isTeller", desc := "(I)Z" } : Jvm.MethodName) prog_11_method_4_code (2 : Nat) (Option.some Jvm.ClassFile.FieldType.boolean)), (Jvm.Cond.constantLong "ShipSetsModel" (96 : Nat) (9999 : Int64)), (Jvm.Cond.methodLink "ShipSetsModel" (98 : Nat) ({ cls := "ShipSetsModel", name := "isIn", desc := "(JJJ)Z" } : Jvm.MethodName)), (Jvm.Cond.static ({ cls := "ShipSetsModel", name := "isIn", desc := "(JJJ)Z" } : Jvm.MethodName)), (Jvm.Cond.code ({ cls := "ShipSetsModel", name := "isIn", desc := "(JJJ)Z" } : Jvm.MethodName) prog_11_method_3_code (6 : Nat) (Option.some Jvm.ClassFile.FieldType.boolean)), (Jvm.Cond.constantLong "ShipSetsModel" (102 : Nat) (15 : Int64)), (Jvm.Cond.constantLong "ShipSetsModel" (104 : Nat) (7 : Int64)), (Jvm.Cond.constantLong "ShipSetsModel" (106 : Nat) (-1000000000 : Int64)), (Jvm.Cond.constantLong "ShipSetsModel" (108 : Nat) (1000000000 : Int64)), (Jvm.Cond.constantLong "ShipSetsModel" (110 : Nat) (100000 : Int64)), (Jvm.Cond.methodLink "ShipSetsModel" (112 : Nat) ({ cls := "ShipSetsModel", name := "told", desc := "(II)I" } : Jvm.MethodName)), (Jvm.Cond.instanceMethod ({ cls := "ShipSetsModel", name := "told", desc := "(II)I" } : Jvm.MethodName)), (Jvm.Cond.code ({ cls := "ShipSetsModel", name := "told", desc := "(II)I" } : Jvm.MethodName) prog_11_method_7_code (5 : Nat) (Option.some Jvm.ClassFile.FieldType.int)), (Jvm.Cond.methodLink "ShipSetsLaw" (89 : Nat) ({ cls := "ShipSetsModel", name := "close", desc := "(I)Z" } : Jvm.MethodName)), (Jvm.Cond.instanceMethod ({ cls := "ShipSetsModel", name := "close", desc := "(I)Z" } : Jvm.MethodName)), (Jvm.Cond.selects "ShipSetsModel" ({ cls := "ShipSetsModel", name := "close", desc := "(I)Z" } : Jvm.MethodName) ({ cls := "ShipSetsModel", name := "close", desc := "(I)Z" } : Jvm.MethodName)), (Jvm.Cond.code ({ cls := "ShipSetsModel", name := "close", desc := "(I)Z" } : Jvm.MethodName) prog_11_method_9_code (2 : Nat) (Option.some Jvm.ClassFile.FieldType.boolean)), (Jvm.Cond.methodLink "ShipSetsLaw" (29 : Nat) ({ cls := "ShipSetsModel", name := "set", desc := "(I)I" } : Jvm.MethodName)), (Jvm.Cond.instanceMethod ({ cls := "ShipSetsModel", name := "set", desc := "(I)I" } : Jvm.MethodName)), (Jvm.Cond.selects "ShipSetsModel" ({ cls := "ShipSetsModel", name := "set", desc := "(I)I" } : Jvm.MethodName) ({ cls := "ShipSetsModel", name := "set", desc := "(I)I" } : Jvm.MethodName)), (Jvm.Cond.code ({ cls := "ShipSetsModel", name := "set", desc := "(I)I" } : Jvm.MethodName) prog_11_method_10_code (3 : Nat) (Option.some Jvm.ClassFile.FieldType.int)), (Jvm.Cond.methodLink "ShipSetsLaw" (44 : Nat) ({ cls := "ShipSetsModel", name := "known", desc := "(IIII)J" } : Jvm.MethodName)), (Jvm.Cond.instanceMethod ({ cls := "ShipSetsModel", name := "known", desc := "(IIII)J" } : Jvm.MethodName))]
def gT_4 : List Cond := [(Jvm.Cond.selects "ShipSetsModel" ({ cls := "ShipSetsModel", name := "known", desc := "(IIII)J" } : Jvm.MethodName) ({ cls := "ShipSetsModel", name := "known", desc := "(IIII)J" } : Jvm.MethodName)), (Jvm.Cond.code ({ cls := "ShipSetsModel", name := "known", desc := "(IIII)J" } : Jvm.MethodName) prog_11_method_15_code (5 : Nat) (Option.some Jvm.ClassFile.FieldType.long)), (Jvm.Cond.methodLink "ShipSetsModel" (133 : Nat) ({ cls := "ShipSetsModel", name := "isSet", desc := "(I)Z" } : Jvm.MethodName)), (Jvm.Cond.instanceMethod ({ cls := "ShipSetsModel", name := "isSet", desc := "(I)Z" } : Jvm.MethodName)), (Jvm.Cond.code ({ cls := "ShipSetsModel", name := "isSet", desc := "(I)Z" } : Jvm.MethodName) prog_11_method_5_code (2 : Nat) (Option.some Jvm.ClassFile.FieldType.boolean)), (Jvm.Cond.methodLink "ShipSetsModel" (136 : Nat) ({ cls := "ShipSetsModel", name := "valueOf", desc := "(IIII)J" } : Jvm.MethodName)), (Jvm.Cond.instanceMethod ({ cls := "ShipSetsModel", name := "valueOf", desc := "(IIII)J" } : Jvm.MethodName)), (Jvm.Cond.code ({ cls := "ShipSetsModel", name := "valueOf", desc := "(IIII)J" } : Jvm.MethodName) prog_11_method_14_code (12 : Nat) (Option.some Jvm.ClassFile.FieldType.long)), (Jvm.Cond.methodLink "ShipSetsModel" (120 : Nat) ({ cls := "ShipSetsModel", name := "findCurrent", desc := "(IIII)I" } : Jvm.MethodName)), (Jvm.Cond.instanceMethod ({ cls := "ShipSetsModel", name := "findCurrent", desc := "(IIII)I" } : Jvm.MethodName)), (Jvm.Cond.code ({ cls := "ShipSetsModel", name := "findCurrent", desc := "(IIII)I" } : Jvm.MethodName) prog_11_method_11_code (9 : Nat) (Option.some Jvm.ClassFile.FieldType.int)), (Jvm.Cond.methodLink "ShipSetsModel" (116 : Nat) ({ cls := "ShipSetsModel", name := "isOf", desc := "(IIIII)Z" } : Jvm.MethodName)), (Jvm.Cond.instanceMethod ({ cls := "ShipSetsModel", name := "isOf", desc := "(IIIII)Z" } : Jvm.MethodName)), (Jvm.Cond.code ({ cls := "ShipSetsModel", name := "isOf", desc := "(IIIII)Z" } : Jvm.MethodName) prog_11_method_12_code (6 : Nat) (Option.some Jvm.ClassFile.FieldType.boolean)), (Jvm.Cond.constantLong "ShipSetsModel" (124 : Nat) (-9223372036854775808 : Int64)), (Jvm.Cond.methodLink "ShipSetsModel" (129 : Nat) ({ cls := "ShipSetsModel", name := "counts", desc := "(IIII)Z" } : Jvm.MethodName)), (Jvm.Cond.instanceMethod ({ cls := "ShipSetsModel", name := "counts", desc := "(IIII)Z" } : Jvm.MethodName)), (Jvm.Cond.code ({ cls := "ShipSetsModel", name := "counts", desc := "(IIII)Z" } : Jvm.MethodName) prog_11_method_13_code (7 : Nat) (Option.some Jvm.ClassFile.FieldType.boolean)), (Jvm.Cond.methodLink "ShipSetsLaw" (34 : Nat) ({ cls := "ShipSetsModel", name := "join", desc := "(II)I" } : Jvm.MethodName)), (Jvm.Cond.instanceMethod ({ cls := "ShipSetsModel", name := "join", desc := "(II)I" } : Jvm.MethodName)), (Jvm.Cond.selects "ShipSetsModel" ({ cls := "ShipSetsModel", name := "join", desc := "(II)I" } : Jvm.MethodName) ({ cls := "ShipSetsModel", name := "join", desc := "(II)I" } : Jvm.MethodName)), (Jvm.Cond.code ({ cls := "ShipSetsModel", name := "join", desc := "(II)I" } : Jvm.MethodName) prog_11_method_17_code (5 : Nat) (Option.some Jvm.ClassFile.FieldType.int)), (Jvm.Cond.methodLink "ShipSetsModel" (141 : Nat) ({ cls := "ShipSetsModel", name := "isConflict", desc := "(III)Z" } : Jvm.MethodName)), (Jvm.Cond.instanceMethod ({ cls := "ShipSetsModel", name := "isConflict", desc := "(III)Z" } : Jvm.MethodName)), (Jvm.Cond.code ({ cls := "ShipSetsModel", name := "isConflict", desc := "(III)Z" } : Jvm.MethodName) prog_11_method_16_code (4 : Nat) (Option.some Jvm.ClassFile.FieldType.boolean)), (Jvm.Cond.constant "ShipSetsModel" (140 : Nat) (100000 : Int32)), (Jvm.Cond.methodLink "ShipSetsLaw" (39 : Nat) ({ cls := "ShipSetsModel", name := "equal", desc := "(II)Z" } : Jvm.MethodName)), (Jvm.Cond.instanceMethod ({ cls := "ShipSetsModel", name := "equal", desc := "(II)Z" } : Jvm.MethodName)), (Jvm.Cond.selects "ShipSetsModel" ({ cls := "ShipSetsModel", name := "equal", desc := "(II)Z" } : Jvm.MethodName) ({ cls := "ShipSetsModel", name := "equal", desc := "(II)Z" } : Jvm.MethodName)), (Jvm.Cond.code ({ cls := "ShipSetsModel", name := "equal", desc := "(II)Z" } : Jvm.MethodName) prog_11_method_18_code (5 : Nat) (Option.some Jvm.ClassFile.FieldType.boolean)), (Jvm.Cond.methodLink "ShipSetsLaw" (49 : Nat) ({ cls := "ShipSetsModel", name := "conflict", desc := "(III)I" } : Jvm.MethodName)), (Jvm.Cond.instanceMethod ({ cls := "ShipSetsModel", name := "conflict", desc := "(III)I" } : Jvm.MethodName)), (Jvm.Cond.selects "ShipSetsModel" ({ cls := "ShipSetsModel", name := "conflict", desc := "(III)I" } : Jvm.MethodName) ({ cls := "ShipSetsModel", name := "conflict", desc := "(III)I" } : Jvm.MethodName)), (Jvm.Cond.code ({ cls := "ShipSetsModel", name := "conflict", desc := "(III)I" } : Jvm.MethodName) prog_11_method_19_code (6 : Nat) (Option.some Jvm.ClassFile.FieldType.int)), (Jvm.Cond.methodLink "ShipSetsLaw" (54 : Nat) ({ cls := "ShipSetsModel", name := "settle", desc := "(IIII)I" } : Jvm.MethodName)), (Jvm.Cond.instanceMethod ({ cls := "ShipSetsModel", name := "settle", desc := "(IIII)I" } : Jvm.MethodName)), (Jvm.Cond.selects "ShipSetsModel" ({ cls := "ShipSetsModel", name := "settle", desc := "(IIII)I" } : Jvm.MethodName) ({ cls := "ShipSetsModel", name := "settle", desc := "(IIII)I" } : Jvm.MethodName)), (Jvm.Cond.code ({ cls := "ShipSetsModel", name := "settle", desc := "(IIII)I" } : Jvm.MethodName) prog_11_method_20_code (8 : Nat) (Option.some Jvm.ClassFile.FieldType.int)), (Jvm.Cond.methodLink "ShipSetsLaw" (59 : Nat) ({ cls := "ShipSetsModel", name := "batch", desc := "(I)Z" } : Jvm.MethodName)), (Jvm.Cond.instanceMethod ({ cls := "ShipSetsModel", name := "batch", desc := "(I)Z" } : Jvm.MethodName)), (Jvm.Cond.selects "ShipSetsModel" ({ cls := "ShipSetsModel", name := "batch", desc := "(I)Z" } : Jvm.MethodName) ({ cls := "ShipSetsModel", name := "batch", desc := "(I)Z" } : Jvm.MethodName)), (Jvm.Cond.code ({ cls := "ShipSetsModel", name := "batch", desc := "(I)Z" } : Jvm.MethodName) prog_11_method_21_code (3 : Nat) (Option.some Jvm.ClassFile.FieldType.boolean)), (Jvm.Cond.methodLink "ShipSetsLaw" (63 : Nat) ({ cls := "ShipSetsModel", name := "endBatch", desc := "(I)Z" } : Jvm.MethodName)), (Jvm.Cond.instanceMethod ({ cls := "ShipSetsModel", name := "endBatch", desc := "(I)Z" } : Jvm.MethodName)), (Jvm.Cond.selects "ShipSetsModel" ({ cls := "ShipSetsModel", name := "endBatch", desc := "(I)Z" } : Jvm.MethodName) ({ cls := "ShipSetsModel", name := "endBatch", desc := "(I)Z" } : Jvm.MethodName)), (Jvm.Cond.code ({ cls := "ShipSetsModel", name := "endBatch", desc := "(I)Z" } : Jvm.MethodName) prog_11_method_22_code (2 : Nat) (Option.some Jvm.ClassFile.FieldType.boolean)), (Jvm.Cond.methodLink "ShipSetsLaw" (68 : Nat) ({ cls := "ShipSetsModel", name := "right", desc := "(IIZ)Z" } : Jvm.MethodName)), (Jvm.Cond.instanceMethod ({ cls := "ShipSetsModel", name := "right", desc := "(IIZ)Z" } : Jvm.MethodName)), (Jvm.Cond.selects "ShipSetsModel" ({ cls := "ShipSetsModel", name := "right", desc := "(IIZ)Z" } : Jvm.MethodName) ({ cls := "ShipSetsModel", name := "right", desc := "(IIZ)Z" } : Jvm.MethodName)), (Jvm.Cond.code ({ cls := "ShipSetsModel", name := "right", desc := "(IIZ)Z" } : Jvm.MethodName) prog_11_method_23_code (4 : Nat) (Option.some Jvm.ClassFile.FieldType.boolean)), (Jvm.Cond.constantLong "ShipSetsModel" (145 : Nat) (9 : Int64)), (Jvm.Cond.methodLink "ShipSetsLaw" (72 : Nat) ({ cls := "ShipSetsModel", name := "seen", desc := "(IIII)J" } : Jvm.MethodName)), (Jvm.Cond.instanceMethod ({ cls := "ShipSetsModel", name := "seen", desc := "(IIII)J" } : Jvm.MethodName)), (Jvm.Cond.selects "ShipSetsModel" ({ cls := "ShipSetsModel", name := "seen", desc := "(IIII)J" } : Jvm.MethodName) ({ cls := "ShipSetsModel", name := "seen", desc := "(IIII)J" } : Jvm.MethodName)), (Jvm.Cond.code ({ cls := "ShipSetsModel", name := "seen", desc := "(IIII)J" } : Jvm.MethodName) prog_11_method_24_code (5 : Nat) (Option.some Jvm.ClassFile.FieldType.long)), (Jvm.Cond.methodLink "ShipSetsLaw" (77 : Nat) ({ cls := "ShipSetsModel", name := "block", desc := "(III)Z" } : Jvm.MethodName)), (Jvm.Cond.instanceMethod ({ cls := "ShipSetsModel", name := "block", desc := "(III)Z" } : Jvm.MethodName)), (Jvm.Cond.selects "ShipSetsModel" ({ cls := "ShipSetsModel", name := "block", desc := "(III)Z" } : Jvm.MethodName) ({ cls := "ShipSetsModel", name := "block", desc := "(III)Z" } : Jvm.MethodName)), (Jvm.Cond.code ({ cls := "ShipSetsModel", name := "block", desc := "(III)Z" } : Jvm.MethodName) prog_11_method_26_code (5 : Nat) (Option.some Jvm.ClassFile.FieldType.boolean)), (Jvm.Cond.methodLink "ShipSetsModel" (147 : Nat) ({ cls := "ShipSetsModel", name := "inBlock", desc := "(II)Z" } : Jvm.MethodName)), (Jvm.Cond.instanceMethod ({ cls := "ShipSetsModel", name := "inBlock", desc := "(II)Z" } : Jvm.MethodName)), (Jvm.Cond.code ({ cls := "ShipSetsModel", name := "inBlock", desc := "(II)Z" } : Jvm.MethodName) prog_11_method_25_code (5 : Nat) (Option.some Jvm.ClassFile.FieldType.boolean)), (Jvm.Cond.methodLink "ShipSetsLaw" (81 : Nat) ({ cls := "ShipSetsModel", name := "number", desc := "(I)I" } : Jvm.MethodName)), (Jvm.Cond.instanceMethod ({ cls := "ShipSetsModel", name := "number", desc := "(I)I" } : Jvm.MethodName)), (Jvm.Cond.selects "ShipSetsModel" ({ cls := "ShipSetsModel", name := "number", desc := "(I)I" } : Jvm.MethodName) ({ cls := "ShipSetsModel", name := "number", desc := "(I)I" } : Jvm.MethodName)), (Jvm.Cond.code ({ cls := "ShipSetsModel", name := "number", desc := "(I)I" } : Jvm.MethodName) prog_11_method_27_code (3 : Nat) (Option.some Jvm.ClassFile.FieldType.int)), (Jvm.Cond.methodLink "ShipSetsLaw" (85 : Nat) ({ cls := "ShipSetsModel", name := "lost", desc := "(III)I" } : Jvm.MethodName)), (Jvm.Cond.instanceMethod ({ cls := "ShipSetsModel", name := "lost", desc := "(III)I" } : Jvm.MethodName)), (Jvm.Cond.selects "ShipSetsModel" ({ cls := "ShipSetsModel", name := "lost", desc := "(III)I" } : Jvm.MethodName) ({ cls := "ShipSetsModel", name := "lost", desc := "(III)I" } : Jvm.MethodName)), (Jvm.Cond.code ({ cls := "ShipSetsModel", name := "lost", desc := "(III)I" } : Jvm.MethodName) prog_11_method_28_code (9 : Nat) (Option.some Jvm.ClassFile.FieldType.int)), (Jvm.Cond.methodLink "ShipSetsLaw" (94 : Nat) ({ cls := "ShipSetsModel", name := "mark", desc := "(IJJ)Z" } : Jvm.MethodName)), (Jvm.Cond.instanceMethod ({ cls := "ShipSetsModel", name := "mark", desc := "(IJJ)Z" } : Jvm.MethodName)), (Jvm.Cond.selects "ShipSetsModel" ({ cls := "ShipSetsModel", name := "mark", desc := "(IJJ)Z" } : Jvm.MethodName) ({ cls := "ShipSetsModel", name := "mark", desc := "(IJJ)Z" } : Jvm.MethodName)), (Jvm.Cond.code ({ cls := "ShipSetsModel", name := "mark", desc := "(IJJ)Z" } : Jvm.MethodName) prog_11_method_29_code (8 : Nat) (Option.some Jvm.ClassFile.FieldType.boolean)), (Jvm.Cond.methodLink "ShipSetsLaw" (99 : Nat) ({ cls := "ShipSetsModel", name := "corrected", desc := "(IJI)J" } : Jvm.MethodName)), (Jvm.Cond.instanceMethod ({ cls := "ShipSetsModel", name := "corrected", desc := "(IJI)J" } : Jvm.MethodName)), (Jvm.Cond.selects "ShipSetsModel" ({ cls := "ShipSetsModel", name := "corrected", desc := "(IJI)J" } : Jvm.MethodName) ({ cls := "ShipSetsModel", name := "corrected", desc := "(IJI)J" } : Jvm.MethodName)), (Jvm.Cond.code ({ cls := "ShipSetsModel", name := "corrected", desc := "(IJI)J" } : Jvm.MethodName) prog_11_method_30_code (16 : Nat) (Option.some Jvm.ClassFile.FieldType.long)), (Jvm.Cond.constantLong "ShipSetsModel" (151 : Nat) (-1 : Int64)), (Jvm.Cond.constantLong "ShipSetsLaw" (18 : Nat) (4294967295 : Int64)), (Jvm.Cond.sameMethod "[Ljava/lang/Object;" "java/lang/Object" "getClass" "()Ljava/lang/Class;"), (Jvm.Cond.selects "[Ljava/lang/Object;" ({ cls := "java/lang/Object", name := "getClass", desc := "()Ljava/lang/Class;" } : Jvm.MethodName) ({ cls := "java/lang/Object", name := "getClass", desc := "()Ljava/lang/Class;" } : Jvm.MethodName))]
def gT_s : List Cond := k2_sels lw_privs
def gT : List Cond := gT_s ++ (gT_0 ++ (gT_1 ++ (gT_2 ++ (gT_3 ++ (gT_4)))))
theorem gT_in0 {w : Cond} (i : Nat) (h : gT_0[i]? = some w) : w ∈ gT := List.mem_append_right _ ((List.mem_append_left _ (List.mem_of_getElem? h)))
theorem gT_in1 {w : Cond} (i : Nat) (h : gT_1[i]? = some w) : w ∈ gT := List.mem_append_right _ (List.mem_append_right _ ((List.mem_append_left _ (List.mem_of_getElem? h))))
theorem gT_in2 {w : Cond} (i : Nat) (h : gT_2[i]? = some w) : w ∈ gT := List.mem_append_right _ (List.mem_append_right _ (List.mem_append_right _ ((List.mem_append_left _ (List.mem_of_getElem? h)))))
theorem gT_in3 {w : Cond} (i : Nat) (h : gT_3[i]? = some w) : w ∈ gT := List.mem_append_right _ (List.mem_append_right _ (List.mem_append_right _ (List.mem_append_right _ ((List.mem_append_left _ (List.mem_of_getElem? h))))))
theorem gT_in4 {w : Cond} (i : Nat) (h : gT_4[i]? = some w) : w ∈ gT := List.mem_append_right _ (List.mem_append_right _ (List.mem_append_right _ (List.mem_append_right _ (List.mem_append_right _ ((List.mem_of_getElem? h))))))
theorem gT_ins {w : Cond} (i : Nat) (h : gT_s[i]? = some w) : w ∈ gT := List.mem_append_left _ (List.mem_of_getElem? h)
theorem gT_all : gT.all goodWord = true := by decide +kernel
theorem gT_good : ∀ w ∈ gT, (w.onTables && w.keeps) = true ∨ ∃ ty, w = .arrayClass ty := fun w h => good_of_word (List.all_eq_true.mp gT_all w h)
def gNF : List (String × Nat × String × String × String × String) := [("ShipSets$Settling", 18, "ShipSets$Current", "numbers", "[I", "ShipSets"), ("ShipSets$Teller", 65, "ShipSets$Blocks", "to", "[I", "ShipSets"), ("ShipSets$Teller", 61, "ShipSets$Blocks", "next", "[I", "ShipSets"), ("ShipSets$Teller", 58, "ShipSets$Blocks", "count", "I", "ShipSets"), ("ShipSets", 87, "ShipSets$Teller", "told", "Ljava/util/ArrayList;", "ShipSets"), ("ShipSets", 171, "ShipSets$Teller", "blocks", "LShipSets$Blocks;", "ShipSets"), ("ShipSets", 189, "ShipSets$Teller", "clock", "LShipSets$Clock;", "ShipSets"), ("ShipSets", 83, "ShipSets$Teller", "closed", "Z", "ShipSets"), ("ShipSets$Holding", 25, "ShipSets$Telling", "teller", "I", "ShipSets"), ("ShipSets$Current", 31, "ShipSets$Telling", "teller", "I", "ShipSets"), ("ShipSets$Holding", 19, "ShipSets$Telling", "order", "I", "ShipSets"), ("ShipSets$Teller", 46, "ShipSets$Telling", "number", "I", "ShipSets"), ("ShipSets$Current", 25, "ShipSets$Telling", "number", "I", "ShipSets"), ("ShipSets$Current", 34, "ShipSets$Telling", "value", "J", "ShipSets"), ("ShipSets", 215, "ShipSets$Telling", "on", "I", "ShipSets"), ("ShipSets", 224, "ShipSets$Telling", "earlier", "LShipSets$Telling;", "ShipSets"), ("ShipSets", 104, "ShipSets$Holding", "toldBy", "[I", "ShipSets"), ("ShipSets", 100, "ShipSets$ShipSet", "now", "LShipSets$Holding;", "ShipSets"), ("ShipSets", 159, "ShipSets$ShipSet", "shown", "LShipSets$Holding;", "ShipSets"), ("ShipSets", 156, "ShipSets$ShipSet", "inBatch", "Z", "ShipSets"), ("ShipSets", 243, "ShipSets$Settling", "teller", "I", "ShipSets")]
def gNM : List (String × Nat × MethodName × String) := [("ShipSets", 36, (⟨"ShipSets$Current", "<init>", "()V"⟩ : MethodName), "ShipSets"), ("ShipSets", 51, (⟨"ShipSets$Teller", "<init>", "()V"⟩ : MethodName), "ShipSets"), ("ShipSets$Teller", 20, (⟨"ShipSets$Blocks", "<init>", "()V"⟩ : MethodName), "ShipSets"), ("ShipSets$Teller", 27, (⟨"ShipSets$Clock", "<init>", "()V"⟩ : MethodName), "ShipSets"), ("ShipSets", 99, (⟨"ShipSets$ShipSet", "<init>", "()V"⟩ : MethodName), "ShipSets"), ("ShipSets$ShipSet", 9, (⟨"ShipSets$Holding", "<init>", "()V"⟩ : MethodName), "ShipSets")]
def gNC : List (String × String) := [("[I", "java/lang/Cloneable"), ("ShipSets$Teller", "ShipSets$Teller"), ("ShipSets$Telling", "ShipSets$Telling"), ("ShipSets$ShipSet", "ShipSets$ShipSet"), ("ShipSets$Settling", "ShipSets$Settling"), ("ShipSets", "java/lang/Object"), ("ShipSets$Current", "java/lang/Object"), ("ShipSetsModel", "java/lang/Object"), ("ShipSets$Teller", "java/lang/Object"), ("ShipSets$Blocks", "java/lang/Object"), ("ShipSets$Clock", "java/lang/Object"), ("ShipSets$Telling", "java/lang/Object"), ("ShipSets$ShipSet", "java/lang/Object"), ("ShipSets$Holding", "java/lang/Object"), ("ShipSets$Settling", "java/lang/Object")]
def gAO : List String := ["ShipSets$Telling", "java/lang/Object"]
def gST : List (String × String × String × Nat) := [("java/util/ArrayList", "DEFAULTCAPACITY_EMPTY_ELEMENTDATA", "[Ljava/lang/Object;", 0)]
def gObs : List Nat := [1, 4, 6, 7]
end
section
/-! An abstract memory (cells by address, next address, slots made), the judgement xX over it, a row an instruction. Own work over the kit's W rows. -/
abbrev gV : Type := Int32 ⊕ Int64 ⊕ Option Nat
def gv : gV → Value
  | .inl x => .int x
  | .inr (.inl x) => .long x
  | .inr (.inr r) => va_rf r
def gc : gV → Nat
  | .inr (.inl _) => 2
  | _ => 1
theorem gv_cat (v : gV) : (gv v).category = gc v := by
  rcases v with x | x | r
  · rfl
  · rfl
  · cases r <;> rfl
def gl (q : Nat × gV) : Nat × Value := (q.1, gv q.2)
abbrev gE : Type := (Nat × vp_A) ⊕ (Nat × List Value)
abbrev gM : Type := (Nat → Option gE) × Nat × Nat × (Nat → Nat) × Nat × (Nat → Int32)
abbrev gD : Type := va_G × List (ClassId × FieldType) × Nat × (Nat → Nat) × Nat × (Nat → Int32)
def gA (E : gD) : Nat → Prop := fun q => E.2.2.1 ≤ q
def g_at (E : gD) (a : Nat) (e : gE) (H : Heap) : Prop := match e with
  | .inl x => (x.1 < 100 → gA E a) ∧ ∃ q : ClassId × FieldType, E.2.1[x.1 % 100]? = some q ∧ H[a]? = some (vp_cell q.1 x.2)
  | .inr o => gA E a ∧ va_at E.1 gCl (a, .inr o) H
def gU (mm : gM) (a : Nat) (e : gE) : gM := (fun q => if q = a then some e else mm.1 q, mm.2)
def gN (mm : gM) (e : gE) (n : Nat) : gM := (fun q => if q = mm.2.1 then some e else mm.1 q, mm.2.1 + 1, mm.2.2.1 + n, mm.2.2.2)
def gH (E : gD) (mm : gM) (H : Heap) : Prop := (H.size = mm.2.1 ∧ E.2.2.1 ≤ mm.2.1 ∧ mm.2.2.2 = E.2.2.2) ∧ ∀ (a : Nat) (e : gE), mm.1 a = some e → g_at E a e H
def gLe (mm res : gM) : Prop := mm.2.1 ≤ res.2.1 ∧ mm.2.2.1 ≤ res.2.2.1
theorem g_at.kept {E : gD} {a : Nat} {e : gE} {H H1 : Heap} (h : g_at E a e H) (hq : H1[a]? = H[a]?) : g_at E a e H1 := by
  cases e with
  | inl x =>
    obtain ⟨h1, q, h2, h3⟩ := h
    exact ⟨h1, q, h2, by rw [hq]; exact h3⟩
  | inr o => exact ⟨h.1, va_at.kept h.2 hq⟩
theorem g_at.lt {E : gD} {a : Nat} {e : gE} {H : Heap} (h : g_at E a e H) : a < H.size := by
  cases e with
  | inl x =>
    obtain ⟨h1, q, h2, h3⟩ := h
    exact (Array.getElem?_eq_some_iff.mp h3).1
  | inr o => exact va_at.lt h.2
theorem gH.put {E : gD} {mm : gM} {a : Nat} {e : gE} {H H1 : Heap} (h : gH E mm H) (he : g_at E a e H1) (hz : H1.size = H.size) (oq : ∀ q : Nat, q ≠ a → H1[q]? = H[q]?) : gH E (gU mm a e) H1 := by
  refine ⟨⟨hz.trans h.1.1, h.1.2⟩, fun b f hb => ?_⟩
  by_cases hba : b = a
  · subst hba
    simp only [gU, if_true] at hb
    cases hb
    exact he
  · simp only [gU, if_neg hba] at hb
    exact (h.2 b f hb).kept (oq b hba)
theorem gH.push {E : gD} {mm : gM} {e : gE} {n : Nat} {H H1 : Heap} (h : gH E mm H) (he : g_at E H.size e H1) (hz : H1.size = H.size + 1) (oq : ∀ q : Nat, q < H.size → H1[q]? = H[q]?) : gH E (gN mm e n) H1 := by
  refine ⟨⟨by rw [hz, h.1.1]; rfl, Nat.le_succ_of_le h.1.2.1, h.1.2.2⟩, fun b f hb => ?_⟩
  by_cases hba : b = mm.2.1
  · subst hba
    simp only [gN, if_true] at hb
    cases hb
    rw [← h.1.1]
    exact he
  · simp only [gN, if_neg hba] at hb
    exact (h.2 b f hb).kept (oq b (h.2 b f hb).lt)
/-! what the tables say, along the whole run -/
abbrev gY : Type := String × String × ByteArray × Cond × Nat × Option FieldType × Nat × Nat
abbrev yO (Y : gY) : String := Y.1
abbrev yN (Y : gY) : String := Y.2.1
abbrev yB (Y : gY) : ByteArray := Y.2.2.1
abbrev yC (Y : gY) : Cond := Y.2.2.2.1
abbrev yL (Y : gY) : Nat := Y.2.2.2.2.1
abbrev yR (Y : gY) : Option FieldType := Y.2.2.2.2.2.1
abbrev yF (Y : gY) : Nat := Y.2.2.2.2.2.2.1
abbrev yW (Y : gY) : Nat := Y.2.2.2.2.2.2.2
def gK (E : gD) (U : State) : Prop := va_K E.1 gCl E.2.1 U ∧ E.2.1.map Prod.snd = gTys ∧
  (∀ q ∈ gNF, va_Nw (.fieldLinkNest q.1 q.2.1 q.2.2.1 q.2.2.2.1 q.2.2.2.2.1 q.2.2.2.2.2) U) ∧
  (∀ q ∈ gNM, va_Nw (.methodLinkNest q.1 q.2.1 q.2.2.1 q.2.2.2) U) ∧
  (∀ q ∈ gNC, va_Nw (.castable q.1 q.2) U) ∧ (∀ q ∈ gAO, va_AO q U) ∧
  (∀ q ∈ gST, va_Z q.1 q.2.1 q.2.2.1 (.ref (E.2.2.2.1 q.2.2.2)) (gA E) U U.heap) ∧
  va_T (.object "java/lang/Object") (E.2.2.2.1 0) 0 (fun _ => .null) (gA E) U U.heap ∧ va_Mi "[Ljava/lang/Object;" (E.2.2.2.1 1) U ∧ va_Dc U ∧ (va_X (E.2.2.2.1 2) E.2.2.2.2.1 E.2.2.2.2.2 U U.heap ∧ E.2.2.2.1 2 < E.2.2.1)
theorem gK.warm {E : gD} {s U : State} {locs : List Loc} (h : gK E s) (hW : s.WarmedH U.vm) (hS : va_S (gA E) s.heap U.heap locs) : gK E U := by
  obtain ⟨h1, h2, h3, h4, h5, h6, h7, h8, h9, h10, h11, h12⟩ := h
  have hlt : E.2.2.2.1 2 < s.heap.size := (Array.getElem?_eq_some_iff.mp h11.choose_spec.1).1
  exact ⟨va_K.moved hW.alike h1, h2, fun q hq => va_Nw.warmF hW (h3 q hq), fun q hq => va_Nw.warmM hW (h4 q hq), fun q hq => va_Nw.warmC hW (h5 q hq), fun q hq => va_AO.moved hW.alike (h6 q hq), fun q hq => ((h7 q hq).moved hW.alike).kept hS.2.1, (h8.moved hW.alike).kept hS.2.1, h9.moved hW.alike, h10.moved hW.alike, (h11.moved hW.alike).kept (hS.2.1 _ hlt (Nat.not_le.mpr h12)), h12⟩
theorem gK.calling {E : gD} {U : State} {g : JFrame} {mk : MethodId} {a : Array Value} (h : gK E U) : gK E (U.calling g mk a) := by
  obtain ⟨h1, h2, h3, h4, h5, h6, h7, h8, h9, h10, h11, h12⟩ := h
  have hv : U.vm.Alike (U.calling g mk a).vm := Vm.Alike.refl U.vm
  exact ⟨va_K.moved hv h1, h2, fun q hq => va_Nw.same rfl rfl (h3 q hq), fun q hq => va_Nw.same rfl rfl (h4 q hq), fun q hq => va_Nw.same rfl rfl (h5 q hq), fun q hq => va_AO.moved hv (h6 q hq), fun q hq => (h7 q hq).moved hv, h8.moved hv, h9.moved hv, h10.moved hv, h11.moved hv, h12⟩
def gQ (E : gD) (rv : Option Value) (res : gM) : Array Value → State → Outcome → State → Prop := fun _ st o t => o = .returned rv ∧ gH E res t.heap ∧ va_F (gA E) st t
abbrev gR (Y : gY) (n0 s0 : Nat) (res : gM) : Room := { frames := yF Y, cells := res.2.1 - n0, slots := res.2.2.1 - s0, locals := yW Y }
def xC (Y : gY) (E : gD) (p : Program) (s : State) (m : MethodId) (args : Array Value) (meth : Method) (c : Code) : Prop :=
  p.tables.exec = Jvm.exec ∧ c.code = yB Y ∧ meth.sig.returnType = yR Y ∧ c.maxLocals = yL Y ∧ s.vm.findClass (yO Y) = some m.cls ∧ (∀ w ∈ yC Y :: gT, w.before args s = true) ∧ meth.locks = false ∧ meth.name = yN Y ∧ gK E s
def xX (l : Launch) (E : gD) (Y : gY) (n0 s0 : Nat) (rv : Option Value) (res : gM) (pc : Nat) (lv : List (Nat × gV)) (st : List gV) (mm : gM) : Prop :=
  gLe mm res ∧ ∀ (p : Program) (e : Env) (s : State) (m : MethodId) (args : Array Value) (below : List Frame) (meth : Method) (c : Code), xC Y E p s m args meth c → s.heap.size = n0 → n0 ≤ mm.2.1 → s0 ≤ mm.2.2.1 →
    ∀ (H : Heap) (locs : List Loc) (ls : Array Slot), gH E mm H → va_S (gA E) s.heap H locs → lv_has ls (yL Y) (lv.map gl) →
      W p l e (gR Y n0 s0 res) s m args below meth c H locs (mm.2.1 - n0) (mm.2.2.1 - s0) (MQ below (gQ E rv res) args s (res.2.1 - n0) (res.2.2.1 - s0) (gA E)) (F0 m pc ls (st.map gv))
def gMet (l : Launch) (E : gD) (Y : gY) (y : MethodName) (as : List gV) (rv : Option Value) (mm res : gM) : Prop :=
  Met l y (yC Y :: gT) (gR Y mm.2.1 mm.2.2.1 res) (va_Pc (as.map gv) (fun U => gH E mm U.heap ∧ gK E U)) (gQ E rv res) (res.2.1 - mm.2.1) (res.2.2.1 - mm.2.2.1) (gA E)
def gla : Nat → List gV → List (Nat × gV)
  | _, [] => []
  | i, v :: vs => (i, v) :: gla (i + gc v) vs
theorem gla_eq (vs : List gV) : ∀ i, lv_args i (vs.map gv) = (gla i vs).map gl := by
  induction vs with
  | nil => intro i; rfl
  | cons v vs ih =>
    intro i
    have hc : (if (gv v).category = 2 then i + 2 else i + 1) = i + gc v := by
      rw [gv_cat]
      rcases v with x | x | r <;> rfl
    show (i, gv v) :: lv_args (if (gv v).category = 2 then i + 2 else i + 1) (vs.map gv) = gl (i, v) :: (gla (i + gc v) vs).map gl
    rw [hc, ih]
    rfl
theorem gsl_len (vs : List gV) : (lg_sl (vs.map gv)).length = (vs.map gc).sum := by
  induction vs with
  | nil => rfl
  | cons v vs ih =>
    have e : lg_sl ((v :: vs).map gv) = (if (gv v).category = 2 then [Slot.val (gv v), .second] else [.val (gv v)]) ++ lg_sl (vs.map gv) := rfl
    rw [e, List.length_append, ih, List.map_cons, List.sum_cons, gv_cat]
    rcases v with x | x | r <;> rfl
/-- a method's contract out of the walk of its body -/
theorem x_met {Y : gY} {y : MethodName} {as : List gV} {rv : Option Value} {mm res : gM} (hy : plainName y.cls = true) (hc : yC Y = Cond.code y (yB Y) (yL Y) (yR Y)) (ho : y.cls = yO Y) (hnm : y.name = yN Y) (hn : (as.map gc).sum ≤ yL Y)
    {l : Launch} {E : gD} (h : xX l E Y mm.2.1 mm.2.2.1 rv res 0 (gla 0 as) [] mm) : gMet l E Y y as rv mm res := by
  refine Met.ofW (cc := yB Y) (maxL := yL Y) (ret := yR Y) hy (by rw [hc]) ?_
  intro p e s m args below meth c s₁ B hml hv
  obtain ⟨rfl, hH, hK⟩ := hv
  have hts := atoms_spec (ws := yC Y :: gT) B.pre
  have hown : s.vm.findClass y.cls = some m.cls := findClass_of_methodNamed B.named
  have hw := h.2 p e s m _ below meth c ⟨B.exec, B.bytes, B.returns, hml, by rw [← ho]; exact hown, hts, B.notSynchronized, ((name_of_methodNamed B.named B.method).1).trans hnm, hK⟩ hH.1.1 (Nat.le_refl _) (Nat.le_refl _) s.heap [] _ hH va_S.rf (by
    have hl := lv_entry (as.map gv) (n := yL Y) (by rw [gsl_len]; exact hn)
    rw [gla_eq] at hl
    exact hl)
  rw [Nat.sub_self, Nat.sub_self] at hw
  rw [lg_entry_eq]
  exact hw
theorem g_mem {L : List Cond} {w : Cond} (i : Nat) (h : L[i]? = some w) : w ∈ L := List.mem_of_getElem? h
section GX
variable {l : Launch} {E : gD} {Y : gY} {n0 s0 : Nat} {rv : Option Value} {res mm mm1 : gM} {lv lv' : List (Nat × gV)} {st st' : List gV}
theorem x_same {pc pc' : Nat} (h : ∀ {p : Program} {e : Env} {s : State} {m : MethodId} {args : Array Value} {below : List Frame} {meth : Method} {c : Code} {H : Heap} {locs : List Loc} {ls : Array Slot} {cells slots : Nat} {Q : State → Prop}, xC Y E p s m args meth c → gH E mm H → va_S (gA E) s.heap H locs → lv_has ls (yL Y) (lv.map gl) → cells ≤ res.2.1 - n0 → slots ≤ res.2.2.1 - s0 →
      (∀ ls' : Array Slot, lv_has ls' (yL Y) (lv'.map gl) → W p l e (gR Y n0 s0 res) s m args below meth c H locs cells slots Q (F0 m pc' ls' (st'.map gv))) → W p l e (gR Y n0 s0 res) s m args below meth c H locs cells slots Q (F0 m pc ls (st.map gv)))
    (k : xX l E Y n0 s0 rv res pc' lv' st' mm) : xX l E Y n0 s0 rv res pc lv st mm := by
  refine ⟨k.1, ?_⟩
  intro p e s m args below meth c C hz h1 h2 H locs ls hH hS hl
  obtain ⟨k1, k2⟩ := k
  exact h C hH hS hl (Nat.sub_le_sub_right k1.1 _) (Nat.sub_le_sub_right k1.2 _) (fun ls' hl' => k2 p e s m args below meth c C hz h1 h2 H locs ls' hH hS hl')
/-- a row that writes one cell, or none: the sizes stay -/
theorem x_write {pc pc' : Nat} (hz : mm1.2 = mm.2) (h : ∀ {p : Program} {e : Env} {s : State} {m : MethodId} {args : Array Value} {below : List Frame} {meth : Method} {c : Code} {H : Heap} {locs : List Loc} {ls : Array Slot} {cells slots : Nat} {Q : State → Prop}, xC Y E p s m args meth c → gH E mm H → va_S (gA E) s.heap H locs → lv_has ls (yL Y) (lv.map gl) → cells ≤ res.2.1 - n0 → slots ≤ res.2.2.1 - s0 →
      (∀ (H1 : Heap) (locs1 : List Loc), gH E mm1 H1 → va_S (gA E) s.heap H1 locs1 → W p l e (gR Y n0 s0 res) s m args below meth c H1 locs1 cells slots Q (F0 m pc' ls (st'.map gv))) → W p l e (gR Y n0 s0 res) s m args below meth c H locs cells slots Q (F0 m pc ls (st.map gv)))
    (k : xX l E Y n0 s0 rv res pc' lv st' mm1) : xX l E Y n0 s0 rv res pc lv st mm := by
  obtain ⟨k1, k2⟩ := k
  obtain ⟨f, n, z⟩ := mm
  obtain ⟨f1, n1, z1⟩ := mm1
  obtain ⟨rfl, rfl⟩ : n1 = n ∧ z1 = z := by simpa using hz
  refine ⟨k1, ?_⟩
  intro p e s m args below meth c C hz h1 h2 H locs ls hH hS hl
  exact h C hH hS hl (Nat.sub_le_sub_right k1.1 _) (Nat.sub_le_sub_right k1.2 _) (fun H1 locs1 hH1 hS1 => k2 p e s m args below meth c C hz h1 h2 H1 locs1 ls hH1 hS1 hl)
/-- a row that makes a cell of n slots -/
theorem x_make {pc pc' n : Nat} (hz : mm1.2 = (mm.2.1 + 1, mm.2.2.1 + n, mm.2.2.2)) (h : ∀ {p : Program} {e : Env} {s : State} {m : MethodId} {args : Array Value} {below : List Frame} {meth : Method} {c : Code} {H : Heap} {locs : List Loc} {ls : Array Slot} {cells slots : Nat} {Q : State → Prop}, xC Y E p s m args meth c → gH E mm H → va_S (gA E) s.heap H locs → lv_has ls (yL Y) (lv.map gl) → cells + 1 ≤ res.2.1 - n0 → slots + n ≤ res.2.2.1 - s0 →
      (∀ (H1 : Heap) (locs1 : List Loc), gH E mm1 H1 → va_S (gA E) s.heap H1 locs1 → W p l e (gR Y n0 s0 res) s m args below meth c H1 locs1 (cells + 1) (slots + n) Q (F0 m pc' ls (st'.map gv))) → W p l e (gR Y n0 s0 res) s m args below meth c H locs cells slots Q (F0 m pc ls (st.map gv)))
    (k : xX l E Y n0 s0 rv res pc' lv st' mm1) : xX l E Y n0 s0 rv res pc lv st mm := by
  obtain ⟨k1, k2⟩ := k
  obtain ⟨f, a, z, w⟩ := mm
  obtain ⟨f1, a1, z1, w1⟩ := mm1
  obtain ⟨rfl, rfl, rfl⟩ : a1 = a + 1 ∧ z1 = z + n ∧ w1 = w := by simpa using hz
  obtain ⟨g1, g2⟩ := k1
  dsimp only at g1 g2
  refine ⟨⟨?_, ?_⟩, ?_⟩
  · dsimp only; omega
  · dsimp only; omega
  intro p e s m args below meth c C hz h1 h2 H locs ls hH hS hl
  dsimp only at h1 h2
  have e1 : a - n0 + 1 = a + 1 - n0 := by omega
  have e2 : z - s0 + n = z + n - s0 := by omega
  refine h C hH hS hl (by dsimp only; omega) (by dsimp only; omega) (fun H1 locs1 hH1 hS1 => ?_)
  dsimp only
  rw [e1, e2]
  exact k2 p e s m args below meth c C hz (by dsimp only; omega) (by dsimp only; omega) H1 locs1 ls hH1 hS1 hl
theorem x_sub (ks : List Nat) (hs : ks.filterMap (fun k => lv[k]?) = lv') {pc : Nat} (k : xX l E Y n0 s0 rv res pc lv' st mm) : xX l E Y n0 s0 rv res pc lv st mm := by
  refine x_same (fun C hH hS hl _ _ kk => kk _ (lv_sub hl ks ?_)) k
  subst hs
  show List.filterMap (fun k => (lv.map gl)[k]?) ks = List.map gl (List.filterMap (fun k => lv[k]?) ks)
  rw [List.map_filterMap]
  apply congrArg (fun f => List.filterMap f ks)
  funext k
  rw [List.getElem?_map]
theorem x_topi {x y : Int32} {pc : Nat} (e : y = x) (k : xX l E Y n0 s0 rv res pc lv (.inl y :: st) mm) : xX l E Y n0 s0 rv res pc lv (.inl x :: st) mm := e ▸ k
theorem x_topl {x y : Int64} {pc : Nat} (e : y = x) (k : xX l E Y n0 s0 rv res pc lv (.inr (.inl y) :: st) mm) : xX l E Y n0 s0 rv res pc lv (.inr (.inl x) :: st) mm := e ▸ k
theorem x_topr {x y : Option Nat} {pc : Nat} (e : y = x) (k : xX l E Y n0 s0 rv res pc lv (.inr (.inr y) :: st) mm) : xX l E Y n0 s0 rv res pc lv (.inr (.inr x) :: st) mm := e ▸ k
theorem gl_at {ls : Array Slot} {nL : Nat} (hl : lv_has ls nL (lv.map gl)) (j : Nat) {i : Nat} {v : gV} (hk : lv[j]? = some (i, v)) : ls[i]? = some (.val (gv v)) := lv_at hl j (by rw [List.getElem?_map, hk]; rfl)
/-! constants -/
theorem x_iconst (pc : Nat) {n : Int} {v : Int32} (hdg : decode (yB Y) pc = .ok (.iconst n, 1)) (hv : Int32.ofInt n = v) (k : xX l E Y n0 s0 rv res (pc + 1) lv (.inl v :: st) mm) : xX l E Y n0 s0 rv res pc lv st mm :=
  x_same (fun C hH hS hl _ _ kk => lv_iconst C.1 C.2.1 hdg hv (kk _ hl)) k
theorem x_bipush (pc : Nat) {n : Int} {v : Int32} (hdg : decode (yB Y) pc = .ok (.bipush n, 2)) (hv : (Int8.ofInt n).toInt32 = v) (k : xX l E Y n0 s0 rv res (pc + 2) lv (.inl v :: st) mm) : xX l E Y n0 s0 rv res pc lv st mm :=
  x_same (fun C hH hS hl _ _ kk => lv_bipush C.1 C.2.1 hdg hv (kk _ hl)) k
theorem x_sipush (pc : Nat) {n : Int} {v : Int32} (hdg : decode (yB Y) pc = .ok (.sipush n, 3)) (hv : (Int16.ofInt n).toInt32 = v) (k : xX l E Y n0 s0 rv res (pc + 3) lv (.inl v :: st) mm) : xX l E Y n0 s0 rv res pc lv st mm :=
  x_same (fun C hH hS hl _ _ kk => lv_sipush C.1 C.2.1 hdg hv (kk _ hl)) k
theorem x_lconst (pc : Nat) {n : Fin 2} {v : Int64} (hdg : decode (yB Y) pc = .ok (.lconst n, 1)) (hv : Int64.ofNat (n : Nat) = v) (k : xX l E Y n0 s0 rv res (pc + 1) lv (.inr (.inl v) :: st) mm) : xX l E Y n0 s0 rv res pc lv st mm :=
  x_same (fun C hH hS hl _ _ kk => lv_lconst C.1 C.2.1 hdg hv (kk _ hl)) k
theorem x_ldc (pc : Nat) {index : Nat} {v : Int32} (hdg : decode (yB Y) pc = .ok (.ldc index, 2)) (hw : Cond.constant (yO Y) index v ∈ gT) (k : xX l E Y n0 s0 rv res (pc + 2) lv (.inl v :: st) mm) : xX l E Y n0 s0 rv res pc lv st mm :=
  x_same (fun C hH hS hl _ _ kk => W.ldc C.1 C.2.1 C.2.2.2.2.1 (C.2.2.2.2.2.1 _ (List.mem_cons_of_mem _ hw)) rfl hdg (kk _ hl)) k
theorem x_ldc2 (pc : Nat) {index : Nat} {v : Int64} (hdg : decode (yB Y) pc = .ok (.ldc2_w index, 3)) (hw : Cond.constantLong (yO Y) index v ∈ gT) (k : xX l E Y n0 s0 rv res (pc + 3) lv (.inr (.inl v) :: st) mm) : xX l E Y n0 s0 rv res pc lv st mm :=
  x_same (fun C hH hS hl _ _ kk => W.ldc2 C.1 C.2.1 C.2.2.2.2.1 (C.2.2.2.2.2.1 _ (List.mem_cons_of_mem _ hw)) rfl hdg (kk _ hl)) k
theorem x_null (pc : Nat) (hdg : decode (yB Y) pc = .ok (.aconst_null, 1)) (k : xX l E Y n0 s0 rv res (pc + 1) lv (.inr (.inr none) :: st) mm) : xX l E Y n0 s0 rv res pc lv st mm :=
  x_same (fun C hH hS hl _ _ kk => lv_null C.1 C.2.1 hdg (kk _ hl)) k
/-! locals -/
theorem x_iloadn (pc j : Nat) {f : Fin 4} {i : Nat} {x : Int32} (hdg : decode (yB Y) pc = .ok (.iload_n f, 1)) (hi : (f : Nat) = i) (hk : lv[j]? = some (i, .inl x)) (k : xX l E Y n0 s0 rv res (pc + 1) lv (.inl x :: st) mm) : xX l E Y n0 s0 rv res pc lv st mm :=
  x_same (fun C hH hS hl _ _ kk => lv_iload_n C.1 C.2.1 hdg hi (gl_at hl j hk) (kk _ hl)) k
theorem x_iload (pc j : Nat) {i : Nat} {x : Int32} (hdg : decode (yB Y) pc = .ok (.iload i, 2)) (hk : lv[j]? = some (i, .inl x)) (k : xX l E Y n0 s0 rv res (pc + 2) lv (.inl x :: st) mm) : xX l E Y n0 s0 rv res pc lv st mm :=
  x_same (fun C hH hS hl _ _ kk => lv_iload C.1 C.2.1 hdg (gl_at hl j hk) (kk _ hl)) k
theorem x_lloadn (pc j : Nat) {f : Fin 4} {i : Nat} {x : Int64} (hdg : decode (yB Y) pc = .ok (.lload_n f, 1)) (hi : (f : Nat) = i) (hk : lv[j]? = some (i, .inr (.inl x))) (k : xX l E Y n0 s0 rv res (pc + 1) lv (.inr (.inl x) :: st) mm) : xX l E Y n0 s0 rv res pc lv st mm :=
  x_same (fun C hH hS hl _ _ kk => lv_lload_n C.1 C.2.1 hdg hi (gl_at hl j hk) (kk _ hl)) k
theorem x_lload (pc j : Nat) {i : Nat} {x : Int64} (hdg : decode (yB Y) pc = .ok (.lload i, 2)) (hk : lv[j]? = some (i, .inr (.inl x))) (k : xX l E Y n0 s0 rv res (pc + 2) lv (.inr (.inl x) :: st) mm) : xX l E Y n0 s0 rv res pc lv st mm :=
  x_same (fun C hH hS hl _ _ kk => lv_lload C.1 C.2.1 hdg (gl_at hl j hk) (kk _ hl)) k
theorem x_aloadn (pc j : Nat) {f : Fin 4} {i : Nat} {r : Option Nat} (hdg : decode (yB Y) pc = .ok (.aload_n f, 1)) (hi : (f : Nat) = i) (hk : lv[j]? = some (i, .inr (.inr r))) (k : xX l E Y n0 s0 rv res (pc + 1) lv (.inr (.inr r) :: st) mm) : xX l E Y n0 s0 rv res pc lv st mm := by
  cases r with
  | none => exact x_same (fun C hH hS hl _ _ kk => lv_aload_nN C.1 C.2.1 hdg hi (gl_at hl j hk) (kk _ hl)) k
  | some a => exact x_same (fun C hH hS hl _ _ kk => lv_aload_n C.1 C.2.1 hdg hi (gl_at hl j hk) (kk _ hl)) k
theorem x_aload (pc j : Nat) {i : Nat} {r : Option Nat} (hdg : decode (yB Y) pc = .ok (.aload i, 2)) (hk : lv[j]? = some (i, .inr (.inr r))) (k : xX l E Y n0 s0 rv res (pc + 2) lv (.inr (.inr r) :: st) mm) : xX l E Y n0 s0 rv res pc lv st mm := by
  cases r with
  | none => exact x_same (fun C hH hS hl _ _ kk => lv_aloadN C.1 C.2.1 hdg (gl_at hl j hk) (kk _ hl)) k
  | some a => exact x_same (fun C hH hS hl _ _ kk => lv_aload C.1 C.2.1 hdg (gl_at hl j hk) (kk _ hl)) k
def gk1 (i : Nat) (q : Nat × gV) : Bool := !(q.1 == i) && !(q.1 + 1 == i && gc q.2 == 2)
def gk2 (i : Nat) (q : Nat × gV) : Bool := !(q.1 == i) && (!(q.1 == i + 1) && !(q.1 + 1 == i && gc q.2 == 2))
theorem g_st1 {i : Nat} {v : gV} (h : (i, v) :: lv.filter (gk1 i) = lv') : (i, gv v) :: (lv.map gl).filter (fun q => !(q.1 == i) && !(q.1 + 1 == i && q.2.category == 2)) = lv'.map gl := by
  subst h
  rw [List.filter_map]
  show _ = gl (i, v) :: _
  congr 2
  apply congrArg (fun f => List.filter f lv)
  funext q
  simp [gk1, gl, gv_cat]
theorem g_st2 {i : Nat} {v : gV} (h : (i, v) :: lv.filter (gk2 i) = lv') : (i, gv v) :: (lv.map gl).filter (fun q => !(q.1 == i) && (!(q.1 == i + 1) && !(q.1 + 1 == i && q.2.category == 2))) = lv'.map gl := by
  subst h
  rw [List.filter_map]
  show _ = gl (i, v) :: _
  congr 2
  apply congrArg (fun f => List.filter f lv)
  funext q
  simp [gk2, gl, gv_cat]
theorem x_istoren (pc : Nat) {f : Fin 4} {i : Nat} {x : Int32} (hdg : decode (yB Y) pc = .ok (.istore_n f, 1)) (hi : (f : Nat) = i) (hn : i < yL Y) (hl' : (i, .inl x) :: lv.filter (gk1 i) = lv') (k : xX l E Y n0 s0 rv res (pc + 1) lv' st mm) : xX l E Y n0 s0 rv res pc lv (.inl x :: st) mm :=
  x_same (fun C hH hS hl _ _ kk => lv_istore_n C.1 C.2.1 hdg hi hl hn (g_st1 hl') kk) k
theorem x_istore (pc : Nat) {i : Nat} {x : Int32} (hdg : decode (yB Y) pc = .ok (.istore i, 2)) (hn : i < yL Y) (hl' : (i, .inl x) :: lv.filter (gk1 i) = lv') (k : xX l E Y n0 s0 rv res (pc + 2) lv' st mm) : xX l E Y n0 s0 rv res pc lv (.inl x :: st) mm :=
  x_same (fun C hH hS hl _ _ kk => lv_istore C.1 C.2.1 hdg hl hn (g_st1 hl') kk) k
theorem x_lstoren (pc : Nat) {f : Fin 4} {i : Nat} {x : Int64} (hdg : decode (yB Y) pc = .ok (.lstore_n f, 1)) (hi : (f : Nat) = i) (hn : i + 1 < yL Y) (hl' : (i, .inr (.inl x)) :: lv.filter (gk2 i) = lv') (k : xX l E Y n0 s0 rv res (pc + 1) lv' st mm) : xX l E Y n0 s0 rv res pc lv (.inr (.inl x) :: st) mm :=
  x_same (fun C hH hS hl _ _ kk => lv_lstore_n C.1 C.2.1 hdg hi hl hn (g_st2 hl') kk) k
theorem x_lstore (pc : Nat) {i : Nat} {x : Int64} (hdg : decode (yB Y) pc = .ok (.lstore i, 2)) (hn : i + 1 < yL Y) (hl' : (i, .inr (.inl x)) :: lv.filter (gk2 i) = lv') (k : xX l E Y n0 s0 rv res (pc + 2) lv' st mm) : xX l E Y n0 s0 rv res pc lv (.inr (.inl x) :: st) mm :=
  x_same (fun C hH hS hl _ _ kk => lv_lstore C.1 C.2.1 hdg hl hn (g_st2 hl') kk) k
theorem x_astoren (pc : Nat) {f : Fin 4} {i : Nat} {r : Option Nat} (hdg : decode (yB Y) pc = .ok (.astore_n f, 1)) (hi : (f : Nat) = i) (hn : i < yL Y) (hl' : (i, .inr (.inr r)) :: lv.filter (gk1 i) = lv') (k : xX l E Y n0 s0 rv res (pc + 1) lv' st mm) : xX l E Y n0 s0 rv res pc lv (.inr (.inr r) :: st) mm := by
  cases r with
  | none => exact x_same (fun C hH hS hl _ _ kk => lv_astore_nN C.1 C.2.1 hdg hi hl hn (g_st1 hl') kk) k
  | some a => exact x_same (fun C hH hS hl _ _ kk => lv_astore_n C.1 C.2.1 hdg hi hl hn (g_st1 hl') kk) k
theorem x_astore (pc : Nat) {i : Nat} {r : Option Nat} (hdg : decode (yB Y) pc = .ok (.astore i, 2)) (hn : i < yL Y) (hl' : (i, .inr (.inr r)) :: lv.filter (gk1 i) = lv') (k : xX l E Y n0 s0 rv res (pc + 2) lv' st mm) : xX l E Y n0 s0 rv res pc lv (.inr (.inr r) :: st) mm := by
  cases r with
  | none => exact x_same (fun C hH hS hl _ _ kk => lv_astoreN C.1 C.2.1 hdg hl hn (g_st1 hl') kk) k
  | some a => exact x_same (fun C hH hS hl _ _ kk => lv_astore C.1 C.2.1 hdg hl hn (g_st1 hl') kk) k
theorem x_iinc (pc j : Nat) {i : Nat} {n : Int} {x v : Int32} (hdg : decode (yB Y) pc = .ok (.iinc i n, 3)) (hk : lv[j]? = some (i, .inl x)) (hv : x + Int32.ofInt n = v) (hn : i < yL Y) (hl' : (i, .inl v) :: lv.filter (gk1 i) = lv') (k : xX l E Y n0 s0 rv res (pc + 3) lv' st mm) : xX l E Y n0 s0 rv res pc lv st mm :=
  x_same (fun C hH hS hl _ _ kk => lv_iinc (k := j) C.1 C.2.1 hdg hl (by rw [List.getElem?_map, hk]; rfl) hv hn (g_st1 hl') kk) k
/-! arithmetic -/
theorem x_iadd (pc : Nat) {x y : Int32} (hdg : decode (yB Y) pc = .ok (.iadd, 1)) (k : xX l E Y n0 s0 rv res (pc + 1) lv (.inl (x + y) :: st) mm) : xX l E Y n0 s0 rv res pc lv (.inl y :: .inl x :: st) mm :=
  x_same (fun C hH hS hl _ _ kk => lv_iadd C.1 C.2.1 hdg (kk _ hl)) k
theorem x_isub (pc : Nat) {x y : Int32} (hdg : decode (yB Y) pc = .ok (.isub, 1)) (k : xX l E Y n0 s0 rv res (pc + 1) lv (.inl (x - y) :: st) mm) : xX l E Y n0 s0 rv res pc lv (.inl y :: .inl x :: st) mm :=
  x_same (fun C hH hS hl _ _ kk => lv_isub C.1 C.2.1 hdg (kk _ hl)) k
theorem x_imul (pc : Nat) {x y : Int32} (hdg : decode (yB Y) pc = .ok (.imul, 1)) (k : xX l E Y n0 s0 rv res (pc + 1) lv (.inl (x * y) :: st) mm) : xX l E Y n0 s0 rv res pc lv (.inl y :: .inl x :: st) mm :=
  x_same (fun C hH hS hl _ _ kk => lv_imul C.1 C.2.1 hdg (kk _ hl)) k
theorem x_iand (pc : Nat) {x y : Int32} (hdg : decode (yB Y) pc = .ok (.iand, 1)) (k : xX l E Y n0 s0 rv res (pc + 1) lv (.inl (x &&& y) :: st) mm) : xX l E Y n0 s0 rv res pc lv (.inl y :: .inl x :: st) mm :=
  x_same (fun C hH hS hl _ _ kk => lv_iand C.1 C.2.1 hdg (kk _ hl)) k
theorem x_ior (pc : Nat) {x y : Int32} (hdg : decode (yB Y) pc = .ok (.ior, 1)) (k : xX l E Y n0 s0 rv res (pc + 1) lv (.inl (x ||| y) :: st) mm) : xX l E Y n0 s0 rv res pc lv (.inl y :: .inl x :: st) mm :=
  x_same (fun C hH hS hl _ _ kk => lv_ior C.1 C.2.1 hdg (kk _ hl)) k
theorem x_ixor (pc : Nat) {x y : Int32} (hdg : decode (yB Y) pc = .ok (.ixor, 1)) (k : xX l E Y n0 s0 rv res (pc + 1) lv (.inl (x ^^^ y) :: st) mm) : xX l E Y n0 s0 rv res pc lv (.inl y :: .inl x :: st) mm :=
  x_same (fun C hH hS hl _ _ kk => lv_ixor C.1 C.2.1 hdg (kk _ hl)) k
theorem x_ishl (pc : Nat) {x y : Int32} (hdg : decode (yB Y) pc = .ok (.ishl, 1)) (k : xX l E Y n0 s0 rv res (pc + 1) lv (.inl (x <<< (y &&& 31)) :: st) mm) : xX l E Y n0 s0 rv res pc lv (.inl y :: .inl x :: st) mm :=
  x_same (fun C hH hS hl _ _ kk => lv_ishl C.1 C.2.1 hdg (kk _ hl)) k
theorem x_ishr (pc : Nat) {x y : Int32} (hdg : decode (yB Y) pc = .ok (.ishr, 1)) (k : xX l E Y n0 s0 rv res (pc + 1) lv (.inl (x >>> (y &&& 31)) :: st) mm) : xX l E Y n0 s0 rv res pc lv (.inl y :: .inl x :: st) mm :=
  x_same (fun C hH hS hl _ _ kk => lv_ishr C.1 C.2.1 hdg (kk _ hl)) k
theorem x_iushr (pc : Nat) {x y : Int32} (hdg : decode (yB Y) pc = .ok (.iushr, 1)) (k : xX l E Y n0 s0 rv res (pc + 1) lv (.inl ((x.toUInt32 >>> (y.toUInt32 &&& Int32.toUInt32 31)).toInt32) :: st) mm) : xX l E Y n0 s0 rv res pc lv (.inl y :: .inl x :: st) mm :=
  x_same (fun C hH hS hl _ _ kk => lv_iushr C.1 C.2.1 hdg rfl (kk _ hl)) k
theorem x_idiv (pc : Nat) {x y : Int32} (hne : ¬ y = 0) (hdg : decode (yB Y) pc = .ok (.idiv, 1)) (k : xX l E Y n0 s0 rv res (pc + 1) lv (.inl (x / y) :: st) mm) : xX l E Y n0 s0 rv res pc lv (.inl y :: .inl x :: st) mm :=
  x_same (fun C hH hS hl _ _ kk => lv_idiv C.1 C.2.1 hdg hne (kk _ hl)) k
theorem x_irem (pc : Nat) {x y : Int32} (hne : ¬ y = 0) (hdg : decode (yB Y) pc = .ok (.irem, 1)) (k : xX l E Y n0 s0 rv res (pc + 1) lv (.inl (x - x / y * y) :: st) mm) : xX l E Y n0 s0 rv res pc lv (.inl y :: .inl x :: st) mm :=
  x_same (fun C hH hS hl _ _ kk => lv_irem C.1 C.2.1 hdg hne (kk _ hl)) k
theorem x_ineg (pc : Nat) {x : Int32} (hdg : decode (yB Y) pc = .ok (.ineg, 1)) (k : xX l E Y n0 s0 rv res (pc + 1) lv (.inl (-x) :: st) mm) : xX l E Y n0 s0 rv res pc lv (.inl x :: st) mm :=
  x_same (fun C hH hS hl _ _ kk => lv_ineg C.1 C.2.1 hdg (kk _ hl)) k
theorem x_i2l (pc : Nat) {x : Int32} (hdg : decode (yB Y) pc = .ok (.i2l, 1)) (k : xX l E Y n0 s0 rv res (pc + 1) lv (.inr (.inl x.toInt64) :: st) mm) : xX l E Y n0 s0 rv res pc lv (.inl x :: st) mm :=
  x_same (fun C hH hS hl _ _ kk => lv_i2l C.1 C.2.1 hdg rfl (kk _ hl)) k
theorem x_l2i (pc : Nat) {x : Int64} (hdg : decode (yB Y) pc = .ok (.l2i, 1)) (k : xX l E Y n0 s0 rv res (pc + 1) lv (.inl x.toInt32 :: st) mm) : xX l E Y n0 s0 rv res pc lv (.inr (.inl x) :: st) mm :=
  x_same (fun C hH hS hl _ _ kk => lv_l2i C.1 C.2.1 hdg rfl (kk _ hl)) k
theorem x_ladd (pc : Nat) {x y : Int64} (hdg : decode (yB Y) pc = .ok (.ladd, 1)) (k : xX l E Y n0 s0 rv res (pc + 1) lv (.inr (.inl (x + y)) :: st) mm) : xX l E Y n0 s0 rv res pc lv (.inr (.inl y) :: .inr (.inl x) :: st) mm :=
  x_same (fun C hH hS hl _ _ kk => lv_ladd C.1 C.2.1 hdg (kk _ hl)) k
theorem x_lsub (pc : Nat) {x y : Int64} (hdg : decode (yB Y) pc = .ok (.lsub, 1)) (k : xX l E Y n0 s0 rv res (pc + 1) lv (.inr (.inl (x - y)) :: st) mm) : xX l E Y n0 s0 rv res pc lv (.inr (.inl y) :: .inr (.inl x) :: st) mm :=
  x_same (fun C hH hS hl _ _ kk => lv_lsub C.1 C.2.1 hdg (kk _ hl)) k
theorem x_lmul (pc : Nat) {x y : Int64} (hdg : decode (yB Y) pc = .ok (.lmul, 1)) (k : xX l E Y n0 s0 rv res (pc + 1) lv (.inr (.inl (x * y)) :: st) mm) : xX l E Y n0 s0 rv res pc lv (.inr (.inl y) :: .inr (.inl x) :: st) mm :=
  x_same (fun C hH hS hl _ _ kk => lv_lmul C.1 C.2.1 hdg (kk _ hl)) k
theorem x_land (pc : Nat) {x y : Int64} (hdg : decode (yB Y) pc = .ok (.land, 1)) (k : xX l E Y n0 s0 rv res (pc + 1) lv (.inr (.inl (x &&& y)) :: st) mm) : xX l E Y n0 s0 rv res pc lv (.inr (.inl y) :: .inr (.inl x) :: st) mm :=
  x_same (fun C hH hS hl _ _ kk => lv_land C.1 C.2.1 hdg (kk _ hl)) k
theorem x_lor (pc : Nat) {x y : Int64} (hdg : decode (yB Y) pc = .ok (.lor, 1)) (k : xX l E Y n0 s0 rv res (pc + 1) lv (.inr (.inl (x ||| y)) :: st) mm) : xX l E Y n0 s0 rv res pc lv (.inr (.inl y) :: .inr (.inl x) :: st) mm :=
  x_same (fun C hH hS hl _ _ kk => lv_lor C.1 C.2.1 hdg (kk _ hl)) k
theorem x_lxor (pc : Nat) {x y : Int64} (hdg : decode (yB Y) pc = .ok (.lxor, 1)) (k : xX l E Y n0 s0 rv res (pc + 1) lv (.inr (.inl (x ^^^ y)) :: st) mm) : xX l E Y n0 s0 rv res pc lv (.inr (.inl y) :: .inr (.inl x) :: st) mm :=
  x_same (fun C hH hS hl _ _ kk => lv_lxor C.1 C.2.1 hdg (kk _ hl)) k
theorem x_lneg (pc : Nat) {x : Int64} (hdg : decode (yB Y) pc = .ok (.lneg, 1)) (k : xX l E Y n0 s0 rv res (pc + 1) lv (.inr (.inl (-x)) :: st) mm) : xX l E Y n0 s0 rv res pc lv (.inr (.inl x) :: st) mm :=
  x_same (fun C hH hS hl _ _ kk => lv_lneg C.1 C.2.1 hdg (kk _ hl)) k
theorem x_ldiv (pc : Nat) {x y : Int64} (hne : ¬ y = 0) (hdg : decode (yB Y) pc = .ok (.ldiv, 1)) (k : xX l E Y n0 s0 rv res (pc + 1) lv (.inr (.inl (x / y)) :: st) mm) : xX l E Y n0 s0 rv res pc lv (.inr (.inl y) :: .inr (.inl x) :: st) mm :=
  x_same (fun C hH hS hl _ _ kk => lv_ldiv C.1 C.2.1 hdg hne (kk _ hl)) k
theorem x_lrem (pc : Nat) {x y : Int64} (hne : ¬ y = 0) (hdg : decode (yB Y) pc = .ok (.lrem, 1)) (k : xX l E Y n0 s0 rv res (pc + 1) lv (.inr (.inl (x - x / y * y)) :: st) mm) : xX l E Y n0 s0 rv res pc lv (.inr (.inl y) :: .inr (.inl x) :: st) mm :=
  x_same (fun C hH hS hl _ _ kk => lv_lrem C.1 C.2.1 hdg hne (kk _ hl)) k
theorem x_lshl (pc : Nat) {x : Int64} {y : Int32} (hdg : decode (yB Y) pc = .ok (.lshl, 1)) (k : xX l E Y n0 s0 rv res (pc + 1) lv (.inr (.inl (x <<< (y.toInt64 &&& 63))) :: st) mm) : xX l E Y n0 s0 rv res pc lv (.inl y :: .inr (.inl x) :: st) mm :=
  x_same (fun C hH hS hl _ _ kk => lv_lshl C.1 C.2.1 hdg rfl (kk _ hl)) k
theorem x_lushr (pc : Nat) {x : Int64} {y : Int32} (hdg : decode (yB Y) pc = .ok (.lushr, 1)) (k : xX l E Y n0 s0 rv res (pc + 1) lv (.inr (.inl ((x.toUInt64 >>> (y.toInt64.toUInt64 &&& Int64.toUInt64 63)).toInt64)) :: st) mm) : xX l E Y n0 s0 rv res pc lv (.inl y :: .inr (.inl x) :: st) mm :=
  x_same (fun C hH hS hl _ _ kk => lv_lushr C.1 C.2.1 hdg rfl (kk _ hl)) k
theorem x_lshr (pc : Nat) {x : Int64} {y : Int32} (hdg : decode (yB Y) pc = .ok (.lshr, 1)) (k : xX l E Y n0 s0 rv res (pc + 1) lv (.inr (.inl (x >>> (y.toInt64 &&& 63))) :: st) mm) : xX l E Y n0 s0 rv res pc lv (.inl y :: .inr (.inl x) :: st) mm :=
  x_same (fun C hH hS hl _ _ kk => lv_lshr C.1 C.2.1 hdg rfl (kk _ hl)) k
/-! the stack -/
theorem x_dup (pc : Nat) {v : gV} (hdg : decode (yB Y) pc = .ok (.dup, 1)) (hc : gc v = 1) (k : xX l E Y n0 s0 rv res (pc + 1) lv (v :: v :: st) mm) : xX l E Y n0 s0 rv res pc lv (v :: st) mm :=
  x_same (fun C hH hS hl _ _ kk => lv_dup C.1 C.2.1 hdg ((gv_cat v).trans hc) (kk _ hl)) k
theorem x_pop (pc : Nat) {v : gV} (hdg : decode (yB Y) pc = .ok (.pop, 1)) (hc : gc v = 1) (k : xX l E Y n0 s0 rv res (pc + 1) lv st mm) : xX l E Y n0 s0 rv res pc lv (v :: st) mm :=
  x_same (fun C hH hS hl _ _ kk => lv_pop C.1 C.2.1 hdg ((gv_cat v).trans hc) (kk _ hl)) k
theorem x_dup_x1 (pc : Nat) {v w : gV} (hdg : decode (yB Y) pc = .ok (.dup_x1, 1)) (hc : gc v = 1) (hd : gc w = 1) (k : xX l E Y n0 s0 rv res (pc + 1) lv (v :: w :: v :: st) mm) : xX l E Y n0 s0 rv res pc lv (v :: w :: st) mm :=
  x_same (fun C hH hS hl _ _ kk => lv_dup_x1 C.1 C.2.1 hdg ((gv_cat v).trans hc) ((gv_cat w).trans hd) (kk _ hl)) k
theorem x_dup2 (pc : Nat) {v w : gV} (hdg : decode (yB Y) pc = .ok (.dup2, 1)) (hc : gc v = 1) (hd : gc w = 1) (k : xX l E Y n0 s0 rv res (pc + 1) lv (v :: w :: v :: w :: st) mm) : xX l E Y n0 s0 rv res pc lv (v :: w :: st) mm :=
  x_same (fun C hH hS hl _ _ kk => lv_dup2_11 C.1 C.2.1 hdg ((gv_cat v).trans hc) ((gv_cat w).trans hd) (kk _ hl)) k
theorem x_goto (pc tgt : Nat) {off : Int} (hdg : decode (yB Y) pc = .ok (.goto off, 3)) (ht : (pc : Int) + off = (tgt : Int)) (k : xX l E Y n0 s0 rv res tgt lv st mm) : xX l E Y n0 s0 rv res pc lv st mm :=
  x_same (fun C hH hS hl _ _ kk => lv_goto C.1 C.2.1 hdg ht (kk _ hl)) k
theorem x_two {c : Prop} {pc pt pf : Nat} (h : ∀ {p : Program} {e : Env} {s : State} {m : MethodId} {args : Array Value} {below : List Frame} {meth : Method} {c0 : Code} {H : Heap} {locs : List Loc} {ls : Array Slot} {cells slots : Nat} {Q : State → Prop}, xC Y E p s m args meth c0 →
      (c → W p l e (gR Y n0 s0 res) s m args below meth c0 H locs cells slots Q (F0 m pt ls (st'.map gv))) → (¬ c → W p l e (gR Y n0 s0 res) s m args below meth c0 H locs cells slots Q (F0 m pf ls (st'.map gv))) → W p l e (gR Y n0 s0 res) s m args below meth c0 H locs cells slots Q (F0 m pc ls (st.map gv)))
    (kt : c → xX l E Y n0 s0 rv res pt lv st' mm) (kf : ¬ c → xX l E Y n0 s0 rv res pf lv st' mm) : xX l E Y n0 s0 rv res pc lv st mm := by
  have h0 : gLe mm res := by
    by_cases hc : c
    · exact (kt hc).1
    · exact (kf hc).1
  refine ⟨h0, ?_⟩
  intro p e s m args below meth c C hz h1 h2 H locs ls hH hS hl
  exact h C (fun hc => (kt hc).2 p e s m args below meth c C hz h1 h2 H locs ls hH hS hl) (fun hc => (kf hc).2 p e s m args below meth c C hz h1 h2 H locs ls hH hS hl)
theorem x_if_eq (pc tgt : Nat) {x : Int32} {off : Int} (hdg : decode (yB Y) pc = .ok (.ifCond .eq off, 3)) (ht : (pc : Int) + off = (tgt : Int)) (kt : x = 0 → xX l E Y n0 s0 rv res tgt lv st mm) (kf : ¬ x = 0 → xX l E Y n0 s0 rv res (pc + 3) lv st mm) : xX l E Y n0 s0 rv res pc lv (.inl x :: st) mm :=
  x_two (fun C k1 k2 => lv_if_eq C.1 C.2.1 hdg ht k1 k2) kt kf
theorem x_icmp_eq (pc tgt : Nat) {x y : Int32} {off : Int} (hdg : decode (yB Y) pc = .ok (.if_icmp .eq off, 3)) (ht : (pc : Int) + off = (tgt : Int)) (kt : x = y → xX l E Y n0 s0 rv res tgt lv st mm) (kf : ¬ x = y → xX l E Y n0 s0 rv res (pc + 3) lv st mm) : xX l E Y n0 s0 rv res pc lv (.inl y :: .inl x :: st) mm :=
  x_two (fun C k1 k2 => lv_icmp_eq C.1 C.2.1 hdg ht k1 k2) kt kf
theorem x_if_lt (pc tgt : Nat) {x : Int32} {off : Int} (hdg : decode (yB Y) pc = .ok (.ifCond .lt off, 3)) (ht : (pc : Int) + off = (tgt : Int)) (kt : x < 0 → xX l E Y n0 s0 rv res tgt lv st mm) (kf : ¬ x < 0 → xX l E Y n0 s0 rv res (pc + 3) lv st mm) : xX l E Y n0 s0 rv res pc lv (.inl x :: st) mm :=
  x_two (fun C k1 k2 => lv_if_lt C.1 C.2.1 hdg ht k1 k2) kt kf
theorem x_icmp_lt (pc tgt : Nat) {x y : Int32} {off : Int} (hdg : decode (yB Y) pc = .ok (.if_icmp .lt off, 3)) (ht : (pc : Int) + off = (tgt : Int)) (kt : x < y → xX l E Y n0 s0 rv res tgt lv st mm) (kf : ¬ x < y → xX l E Y n0 s0 rv res (pc + 3) lv st mm) : xX l E Y n0 s0 rv res pc lv (.inl y :: .inl x :: st) mm :=
  x_two (fun C k1 k2 => lv_icmp_lt C.1 C.2.1 hdg ht k1 k2) kt kf
theorem x_if_ge (pc tgt : Nat) {x : Int32} {off : Int} (hdg : decode (yB Y) pc = .ok (.ifCond .ge off, 3)) (ht : (pc : Int) + off = (tgt : Int)) (kt : 0 ≤ x → xX l E Y n0 s0 rv res tgt lv st mm) (kf : ¬ 0 ≤ x → xX l E Y n0 s0 rv res (pc + 3) lv st mm) : xX l E Y n0 s0 rv res pc lv (.inl x :: st) mm :=
  x_two (fun C k1 k2 => lv_if_ge C.1 C.2.1 hdg ht k1 k2) kt kf
theorem x_icmp_ge (pc tgt : Nat) {x y : Int32} {off : Int} (hdg : decode (yB Y) pc = .ok (.if_icmp .ge off, 3)) (ht : (pc : Int) + off = (tgt : Int)) (kt : y ≤ x → xX l E Y n0 s0 rv res tgt lv st mm) (kf : ¬ y ≤ x → xX l E Y n0 s0 rv res (pc + 3) lv st mm) : xX l E Y n0 s0 rv res pc lv (.inl y :: .inl x :: st) mm :=
  x_two (fun C k1 k2 => lv_icmp_ge C.1 C.2.1 hdg ht k1 k2) kt kf
theorem x_if_gt (pc tgt : Nat) {x : Int32} {off : Int} (hdg : decode (yB Y) pc = .ok (.ifCond .gt off, 3)) (ht : (pc : Int) + off = (tgt : Int)) (kt : 0 < x → xX l E Y n0 s0 rv res tgt lv st mm) (kf : ¬ 0 < x → xX l E Y n0 s0 rv res (pc + 3) lv st mm) : xX l E Y n0 s0 rv res pc lv (.inl x :: st) mm :=
  x_two (fun C k1 k2 => lv_if_gt C.1 C.2.1 hdg ht k1 k2) kt kf
theorem x_icmp_gt (pc tgt : Nat) {x y : Int32} {off : Int} (hdg : decode (yB Y) pc = .ok (.if_icmp .gt off, 3)) (ht : (pc : Int) + off = (tgt : Int)) (kt : y < x → xX l E Y n0 s0 rv res tgt lv st mm) (kf : ¬ y < x → xX l E Y n0 s0 rv res (pc + 3) lv st mm) : xX l E Y n0 s0 rv res pc lv (.inl y :: .inl x :: st) mm :=
  x_two (fun C k1 k2 => lv_icmp_gt C.1 C.2.1 hdg ht k1 k2) kt kf
theorem x_if_le (pc tgt : Nat) {x : Int32} {off : Int} (hdg : decode (yB Y) pc = .ok (.ifCond .le off, 3)) (ht : (pc : Int) + off = (tgt : Int)) (kt : x ≤ 0 → xX l E Y n0 s0 rv res tgt lv st mm) (kf : ¬ x ≤ 0 → xX l E Y n0 s0 rv res (pc + 3) lv st mm) : xX l E Y n0 s0 rv res pc lv (.inl x :: st) mm :=
  x_two (fun C k1 k2 => lv_if_le C.1 C.2.1 hdg ht k1 k2) kt kf
theorem x_icmp_le (pc tgt : Nat) {x y : Int32} {off : Int} (hdg : decode (yB Y) pc = .ok (.if_icmp .le off, 3)) (ht : (pc : Int) + off = (tgt : Int)) (kt : x ≤ y → xX l E Y n0 s0 rv res tgt lv st mm) (kf : ¬ x ≤ y → xX l E Y n0 s0 rv res (pc + 3) lv st mm) : xX l E Y n0 s0 rv res pc lv (.inl y :: .inl x :: st) mm :=
  x_two (fun C k1 k2 => lv_icmp_le C.1 C.2.1 hdg ht k1 k2) kt kf
theorem x_if_ne (pc tgt : Nat) {x : Int32} {off : Int} (hdg : decode (yB Y) pc = .ok (.ifCond .ne off, 3)) (ht : (pc : Int) + off = (tgt : Int)) (kf : x = 0 → xX l E Y n0 s0 rv res (pc + 3) lv st mm) (kt : ¬ x = 0 → xX l E Y n0 s0 rv res tgt lv st mm) : xX l E Y n0 s0 rv res pc lv (.inl x :: st) mm :=
  x_two (fun C k1 k2 => lv_if_ne C.1 C.2.1 hdg ht k2 k1) kf kt
theorem x_icmp_ne (pc tgt : Nat) {x y : Int32} {off : Int} (hdg : decode (yB Y) pc = .ok (.if_icmp .ne off, 3)) (ht : (pc : Int) + off = (tgt : Int)) (kf : x = y → xX l E Y n0 s0 rv res (pc + 3) lv st mm) (kt : ¬ x = y → xX l E Y n0 s0 rv res tgt lv st mm) : xX l E Y n0 s0 rv res pc lv (.inl y :: .inl x :: st) mm :=
  x_two (fun C k1 k2 => lv_icmp_ne C.1 C.2.1 hdg ht k2 k1) kf kt
theorem x_ifnull (pc tgt : Nat) {r : Option Nat} {off : Int} (hdg : decode (yB Y) pc = .ok (.ifnull off, 3)) (ht : (pc : Int) + off = (tgt : Int)) (kt : r = none → xX l E Y n0 s0 rv res tgt lv st mm) (kf : ¬ r = none → xX l E Y n0 s0 rv res (pc + 3) lv st mm) : xX l E Y n0 s0 rv res pc lv (.inr (.inr r) :: st) mm := by
  refine x_two (c := r = none) (fun C k1 k2 => ?_) kt kf
  cases r with
  | none => exact lv_ifnullN C.1 C.2.1 hdg ht (k1 rfl)
  | some a => exact lv_ifnull C.1 C.2.1 hdg (k2 (fun h => by cases h))
theorem x_ifnonnull (pc tgt : Nat) {r : Option Nat} {off : Int} (hdg : decode (yB Y) pc = .ok (.ifnonnull off, 3)) (ht : (pc : Int) + off = (tgt : Int)) (kf : r = none → xX l E Y n0 s0 rv res (pc + 3) lv st mm) (kt : ¬ r = none → xX l E Y n0 s0 rv res tgt lv st mm) : xX l E Y n0 s0 rv res pc lv (.inr (.inr r) :: st) mm := by
  refine x_two (c := r = none) (fun C k1 k2 => ?_) kf kt
  cases r with
  | none => exact lv_ifnonnullN C.1 C.2.1 hdg (k1 rfl)
  | some a => exact lv_ifnonnull C.1 C.2.1 hdg ht (k2 (fun h => by cases h))
theorem x_acmp_eq (pc tgt : Nat) {r q : Option Nat} {off : Int} (hdg : decode (yB Y) pc = .ok (.if_acmp .eq off, 3)) (ht : (pc : Int) + off = (tgt : Int)) (kt : r = q → xX l E Y n0 s0 rv res tgt lv st mm) (kf : ¬ r = q → xX l E Y n0 s0 rv res (pc + 3) lv st mm) : xX l E Y n0 s0 rv res pc lv (.inr (.inr q) :: .inr (.inr r) :: st) mm :=
  x_two (fun C k1 k2 => lv_acmp_eq C.1 C.2.1 hdg ht k1 k2) kt kf
theorem x_acmp_ne (pc tgt : Nat) {r q : Option Nat} {off : Int} (hdg : decode (yB Y) pc = .ok (.if_acmp .ne off, 3)) (ht : (pc : Int) + off = (tgt : Int)) (kf : r = q → xX l E Y n0 s0 rv res (pc + 3) lv st mm) (kt : ¬ r = q → xX l E Y n0 s0 rv res tgt lv st mm) : xX l E Y n0 s0 rv res pc lv (.inr (.inr q) :: .inr (.inr r) :: st) mm :=
  x_two (fun C k1 k2 => lv_acmp_ne C.1 C.2.1 hdg ht k2 k1) kf kt
theorem g_cmp_eq (x y : Int64) : (lg_cmp x y = 0) ↔ x = y := by
  unfold lg_cmp
  by_cases h1 : x > y
  · rw [if_pos h1]
    constructor
    · intro h; exact absurd h (by decide)
    · intro h; subst h; exact absurd h1 (by simp)
  · rw [if_neg h1]
    by_cases h2 : x = y
    · rw [if_pos h2]; exact ⟨fun _ => h2, fun _ => rfl⟩
    · rw [if_neg h2]
      constructor
      · intro h; exact absurd h (by decide)
      · intro h; exact absurd h h2
theorem g_cmp_lt (x y : Int64) : (lg_cmp x y < 0) ↔ x < y := by
  have h := lg_cmp_ge x y
  rw [← Int32.not_le, ← Int64.not_le, h]
theorem g_cmp_gt (x y : Int64) : (0 < lg_cmp x y) ↔ y < x := by
  have h := lg_cmp_le x y
  rw [← Int32.not_le, ← Int64.not_le, h]
theorem x_lcmp (pc : Nat) {x y : Int64} (hdg : decode (yB Y) pc = .ok (.lcmp, 1)) (k : xX l E Y n0 s0 rv res (pc + 1) lv (.inl (lg_cmp x y) :: st) mm) : xX l E Y n0 s0 rv res pc lv (.inr (.inl y) :: .inr (.inl x) :: st) mm :=
  x_same (fun C hH hS hl _ _ kk => W.lcmp C.1 C.2.1 hdg (kk _ hl)) k
theorem x_lc_eq (pc tgt : Nat) {x y : Int64} {off : Int} (hdg : decode (yB Y) pc = .ok (.lcmp, 1)) (hdg2 : decode (yB Y) (pc + 1) = .ok (.ifCond .eq off, 3)) (ht : ((pc + 1 : Nat) : Int) + off = (tgt : Int)) (kt : x = y → xX l E Y n0 s0 rv res tgt lv st mm) (kf : ¬ x = y → xX l E Y n0 s0 rv res (pc + 4) lv st mm) : xX l E Y n0 s0 rv res pc lv (.inr (.inl y) :: .inr (.inl x) :: st) mm :=
  x_lcmp pc hdg (x_if_eq (pc + 1) tgt hdg2 ht (fun h => kt ((g_cmp_eq x y).mp h)) (fun h => kf (fun z => h ((g_cmp_eq x y).mpr z))))
theorem x_lc_lt (pc tgt : Nat) {x y : Int64} {off : Int} (hdg : decode (yB Y) pc = .ok (.lcmp, 1)) (hdg2 : decode (yB Y) (pc + 1) = .ok (.ifCond .lt off, 3)) (ht : ((pc + 1 : Nat) : Int) + off = (tgt : Int)) (kt : x < y → xX l E Y n0 s0 rv res tgt lv st mm) (kf : ¬ x < y → xX l E Y n0 s0 rv res (pc + 4) lv st mm) : xX l E Y n0 s0 rv res pc lv (.inr (.inl y) :: .inr (.inl x) :: st) mm :=
  x_lcmp pc hdg (x_if_lt (pc + 1) tgt hdg2 ht (fun h => kt ((g_cmp_lt x y).mp h)) (fun h => kf (fun z => h ((g_cmp_lt x y).mpr z))))
theorem x_lc_ge (pc tgt : Nat) {x y : Int64} {off : Int} (hdg : decode (yB Y) pc = .ok (.lcmp, 1)) (hdg2 : decode (yB Y) (pc + 1) = .ok (.ifCond .ge off, 3)) (ht : ((pc + 1 : Nat) : Int) + off = (tgt : Int)) (kt : y ≤ x → xX l E Y n0 s0 rv res tgt lv st mm) (kf : ¬ y ≤ x → xX l E Y n0 s0 rv res (pc + 4) lv st mm) : xX l E Y n0 s0 rv res pc lv (.inr (.inl y) :: .inr (.inl x) :: st) mm :=
  x_lcmp pc hdg (x_if_ge (pc + 1) tgt hdg2 ht (fun h => kt ((lg_cmp_ge x y).mp h)) (fun h => kf (fun z => h ((lg_cmp_ge x y).mpr z))))
theorem x_lc_gt (pc tgt : Nat) {x y : Int64} {off : Int} (hdg : decode (yB Y) pc = .ok (.lcmp, 1)) (hdg2 : decode (yB Y) (pc + 1) = .ok (.ifCond .gt off, 3)) (ht : ((pc + 1 : Nat) : Int) + off = (tgt : Int)) (kt : y < x → xX l E Y n0 s0 rv res tgt lv st mm) (kf : ¬ y < x → xX l E Y n0 s0 rv res (pc + 4) lv st mm) : xX l E Y n0 s0 rv res pc lv (.inr (.inl y) :: .inr (.inl x) :: st) mm :=
  x_lcmp pc hdg (x_if_gt (pc + 1) tgt hdg2 ht (fun h => kt ((g_cmp_gt x y).mp h)) (fun h => kf (fun z => h ((g_cmp_gt x y).mpr z))))
theorem x_lc_le (pc tgt : Nat) {x y : Int64} {off : Int} (hdg : decode (yB Y) pc = .ok (.lcmp, 1)) (hdg2 : decode (yB Y) (pc + 1) = .ok (.ifCond .le off, 3)) (ht : ((pc + 1 : Nat) : Int) + off = (tgt : Int)) (kt : x ≤ y → xX l E Y n0 s0 rv res tgt lv st mm) (kf : ¬ x ≤ y → xX l E Y n0 s0 rv res (pc + 4) lv st mm) : xX l E Y n0 s0 rv res pc lv (.inr (.inl y) :: .inr (.inl x) :: st) mm :=
  x_lcmp pc hdg (x_if_le (pc + 1) tgt hdg2 ht (fun h => kt ((lg_cmp_le x y).mp h)) (fun h => kf (fun z => h ((lg_cmp_le x y).mpr z))))
theorem x_lc_ne (pc tgt : Nat) {x y : Int64} {off : Int} (hdg : decode (yB Y) pc = .ok (.lcmp, 1)) (hdg2 : decode (yB Y) (pc + 1) = .ok (.ifCond .ne off, 3)) (ht : ((pc + 1 : Nat) : Int) + off = (tgt : Int)) (kf : x = y → xX l E Y n0 s0 rv res (pc + 4) lv st mm) (kt : ¬ x = y → xX l E Y n0 s0 rv res tgt lv st mm) : xX l E Y n0 s0 rv res pc lv (.inr (.inl y) :: .inr (.inl x) :: st) mm :=
  x_lcmp pc hdg (x_if_ne (pc + 1) tgt hdg2 ht (fun h => kf ((g_cmp_eq x y).mp h)) (fun h => kt (fun z => h ((g_cmp_eq x y).mpr z))))
/-! answers -/
theorem x_end {pc : Nat} (h : ∀ {p : Program} {e : Env} {s : State} {m : MethodId} {args : Array Value} {below : List Frame} {meth : Method} {c : Code} {H : Heap} {locs : List Loc} {ls : Array Slot} {cells slots : Nat}, xC Y E p s m args meth c → (∀ t : State, t.heap = H → s.WarmedH t.vm → gQ E rv mm args s (.returned rv) t) → (∀ q ∈ locs, gA E q.base) →
      W p l e (gR Y n0 s0 mm) s m args below meth c H locs cells slots (MQ below (gQ E rv mm) args s cells slots (gA E)) (F0 m pc ls (st.map gv))) : xX l E Y n0 s0 rv mm pc lv st mm := by
  refine ⟨⟨Nat.le_refl _, Nat.le_refl _⟩, ?_⟩
  intro p e s m args below meth c C hz h1 h2 H locs ls hH hS hl
  exact h C (fun t ht _ => ⟨rfl, by rw [ht]; exact hH, hS.F ht⟩) hS.2.2
theorem x_ireturn (pc : Nat) {v : Int32} (hr : yR Y = some .int) (hdg : decode (yB Y) pc = .ok (.ireturn, 1)) : xX l E Y n0 s0 (some (.int v)) mm pc lv [.inl v] mm :=
  x_end (fun C hq hf => W.iret C.1 C.2.1 (C.2.2.1.trans hr) hq hf hdg (hlocks := C.2.2.2.2.2.2.1))
theorem g_z {v : Int32} (h : v = 0 ∨ v = 1) : narrow .boolean (.int v) = .int v := by
  rcases h with rfl | rfl <;> decide +kernel
theorem x_zreturn (pc : Nat) {v : Int32} (hv : v = 0 ∨ v = 1) (hr : yR Y = some .boolean) (hdg : decode (yB Y) pc = .ok (.ireturn, 1)) : xX l E Y n0 s0 (some (.int v)) mm pc lv [.inl v] mm :=
  x_end (fun C hq hf => W.zret C.1 C.2.1 (C.2.2.1.trans hr) (g_z hv) hq hf hdg (hlocks := C.2.2.2.2.2.2.1))
theorem x_lreturn (pc : Nat) {v : Int64} (hr : yR Y = some .long) (hdg : decode (yB Y) pc = .ok (.lreturn, 1)) : xX l E Y n0 s0 (some (.long v)) mm pc lv [.inr (.inl v)] mm :=
  x_end (fun C hq hf => W.lret C.1 C.2.1 (C.2.2.1.trans hr) hq hf hdg (hlocks := C.2.2.2.2.2.2.1))
theorem x_areturn (pc : Nat) {r : Option Nat} {rt : FieldType} (hr : yR Y = some rt) (hrt : (∃ n, rt = .object n) ∨ ∃ t, rt = .array t) (hdg : decode (yB Y) pc = .ok (.areturn, 1)) : xX l E Y n0 s0 (some (va_rf r)) mm pc lv [.inr (.inr r)] mm :=
  x_end (fun C hq hf => W.aret C.1 C.2.1 (C.2.2.1.trans hr) hrt (va_rf_or r) hq hf hdg (hlocks := C.2.2.2.2.2.2.1))
theorem x_return (pc : Nat) (hr : yR Y = none) (hdg : decode (yB Y) pc = .ok (.return_, 1)) : xX l E Y n0 s0 none mm pc lv [] mm :=
  x_end (fun C hq hf => W.vret C.1 C.2.1 (C.2.2.1.trans hr) hq hf hdg (hlocks := C.2.2.2.2.2.2.1))
end GX
end
section
/-! the memory's own functions, and the rows that use them -/
theorem g_one {D : va_G} {cl : List vw_C} {q : Nat × va_E} {H : Heap} (h : va_at D cl q H) : va_P D cl [q] H := by
  intro k x hx
  have hz : k < 1 := (List.getElem?_eq_some_iff.mp hx).1
  rw [show k = 0 by omega] at hx
  cases hx
  exact h
def gLet {α β : Type} (x : α) (f : α → Option β) : Option β := f x
theorem gLet_elim {α β : Type} {x : α} {f : α → Option β} {z : β} (h : gLet x f = some z) : ∃ y, y = x ∧ f y = some z := ⟨x, rfl, h⟩
def gb1 {α β : Type} (o : Option α) (f : α → Option β) : Option β := match o with
  | none => none
  | some x => f x
theorem gb1_elim {α β : Type} {o : Option α} {f : α → Option β} {z : β} (h : gb1 o f = some z) : ∃ x, o = some x ∧ f x = some z := by
  cases o with
  | none => cases h
  | some x => exact ⟨x, rfl, h⟩
theorem gb1_some {α β : Type} (x : α) (f : α → Option β) : gb1 (some x) f = f x := rfl
def gb2 {α β γ : Type} (o : Option (α × β)) (f : α → β → Option γ) : Option γ := match o with
  | none => none
  | some q => f q.1 q.2
theorem gb2_elim {α β γ : Type} {o : Option (α × β)} {f : α → β → Option γ} {z : γ} (h : gb2 o f = some z) : ∃ x y, o = some (x, y) ∧ f x y = some z := by
  cases o with
  | none => cases h
  | some q => exact ⟨q.1, q.2, rfl, h⟩
theorem gb2_some {α β γ : Type} (x : α) (y : β) (f : α → β → Option γ) : gb2 (some (x, y)) f = f x y := rfl
/-- a test that must hold -/
def gIf {α : Type} (c : Prop) [Decidable c] (o : Option α) : Option α := if c then o else none
theorem gIf_elim {α : Type} {c : Prop} [Decidable c] {o : Option α} {z : α} (h : gIf c o = some z) : c ∧ o = some z := by
  unfold gIf at h
  by_cases hc : c
  · rw [if_pos hc] at h; exact ⟨hc, h⟩
  · rw [if_neg hc] at h; cases h
theorem gIf_pos {α : Type} {c : Prop} [Decidable c] {o : Option α} (h : c) : gIf c o = o := if_pos h
theorem gif_t {α : Type} {c : Prop} [Decidable c] {a b : Option α} {z : α} (h : (if c then a else b) = some z) (hc : c) : a = some z := by
  rw [if_pos hc] at h
  exact h
theorem gif_f {α : Type} {c : Prop} [Decidable c] {a b : Option α} {z : α} (h : (if c then a else b) = some z) (hc : ¬ c) : b = some z := by
  rw [if_neg hc] at h
  exact h
/-- as many turns as no loop here needs -/
def gF : Nat := 1000000
/-- a receiver of a class of ours -/
def grc (ci : Nat) (r : Option Nat) (mm : gM) : Option Nat := match r with
  | none => none
  | some a => match mm.1 a with
    | some (.inr o) => if o.1 = ci then some a else none
    | _ => none
theorem grc_spec {ci : Nat} {r : Option Nat} {mm : gM} {b : Nat} (h : grc ci r mm = some b) : r = some b ∧ ∃ fs : List Value, mm.1 b = some (.inr (ci, fs)) := by
  unfold grc at h
  cases r with
  | none => cases h
  | some a =>
    dsimp only at h
    cases hm : mm.1 a with
    | none => rw [hm] at h; cases h
    | some e =>
      rw [hm] at h
      cases e with
      | inl x => cases h
      | inr o =>
        obtain ⟨c, fs⟩ := o
        dsimp only at h
        by_cases hc : c = ci
        · rw [if_pos hc] at h
          cases h
          subst hc
          exact ⟨rfl, fs, hm⟩
        · rw [if_neg hc] at h; cases h
/-- fields -/
def gfV (ci k : Nat) (r : Option Nat) (mm : gM) : Option Value := match r with
  | none => none
  | some a => match mm.1 a with
    | some (.inr o) => if o.1 = ci then o.2[k]? else none
    | _ => none
theorem gfV_spec {ci k : Nat} {r : Option Nat} {mm : gM} {v : Value} (h : gfV ci k r mm = some v) : ∃ (a : Nat) (fs : List Value), r = some a ∧ mm.1 a = some (.inr (ci, fs)) ∧ fs[k]? = some v := by
  unfold gfV at h
  cases r with
  | none => cases h
  | some a =>
    dsimp only at h
    cases hm : mm.1 a with
    | none => rw [hm] at h; cases h
    | some e =>
      rw [hm] at h
      cases e with
      | inl x => cases h
      | inr o =>
        obtain ⟨c, fs⟩ := o
        dsimp only at h
        by_cases hc : c = ci
        · rw [if_pos hc] at h
          subst hc
          exact ⟨a, fs, rfl, hm, h⟩
        · rw [if_neg hc] at h; cases h
def gfI (ci k : Nat) (r : Option Nat) (mm : gM) : Option Int32 := match gfV ci k r mm with
  | some (.int v) => some v
  | _ => none
def gfL (ci k : Nat) (r : Option Nat) (mm : gM) : Option Int64 := match gfV ci k r mm with
  | some (.long v) => some v
  | _ => none
def gfR (ci k : Nat) (r : Option Nat) (mm : gM) : Option (Option Nat) := match gfV ci k r mm with
  | some (.ref v) => some (some v)
  | some .null => some none
  | _ => none
theorem gfI_V {ci k : Nat} {r : Option Nat} {mm : gM} {v : Int32} (h : gfI ci k r mm = some v) : gfV ci k r mm = some (.int v) := by
  unfold gfI at h
  split at h
  · next hv => cases h; exact hv
  · cases h
theorem gfL_V {ci k : Nat} {r : Option Nat} {mm : gM} {v : Int64} (h : gfL ci k r mm = some v) : gfV ci k r mm = some (.long v) := by
  unfold gfL at h
  split at h
  · next hv => cases h; exact hv
  · cases h
theorem gfR_V {ci k : Nat} {r : Option Nat} {mm : gM} {v : Option Nat} (h : gfR ci k r mm = some v) : gfV ci k r mm = some (va_rf v) := by
  unfold gfR at h
  split at h
  · next hv => cases h; exact hv
  · next hv => cases h; exact hv
  · cases h
def gpV (ci k : Nat) (r : Option Nat) (v : Value) (mm : gM) : Option gM := match r with
  | none => none
  | some a => match mm.1 a with
    | some (.inr o) => if o.1 = ci ∧ k < o.2.length then some (gU mm a (.inr (ci, o.2.set k v))) else none
    | _ => none
theorem gpV_spec {ci k : Nat} {r : Option Nat} {mm mm1 : gM} {v : Value} (h : gpV ci k r v mm = some mm1) : ∃ (a : Nat) (fs : List Value), r = some a ∧ mm.1 a = some (.inr (ci, fs)) ∧ k < fs.length ∧ mm1 = gU mm a (.inr (ci, fs.set k v)) := by
  unfold gpV at h
  cases r with
  | none => cases h
  | some a =>
    dsimp only at h
    cases hm : mm.1 a with
    | none => rw [hm] at h; cases h
    | some e =>
      rw [hm] at h
      cases e with
      | inl x => cases h
      | inr o =>
        obtain ⟨c, fs⟩ := o
        dsimp only at h
        by_cases hc : c = ci ∧ k < fs.length
        · rw [if_pos hc] at h
          obtain ⟨rfl, hk⟩ := hc
          cases h
          exact ⟨a, fs, rfl, hm, hk, rfl⟩
        · rw [if_neg hc] at h; cases h
def gCls (ci : Nat) (C : String) (T : u_T) (N : Nat) : Prop := gCl[ci]? = some (C, T, N) ∧ (∀ w ∈ u_ws C T N, w ∈ gT) ∧ (∃ ty0 : Nat → FieldType, ∀ k, k < N → parseFieldDescriptor (T k).2.2.1 = some (ty0 k)) ∧ ∀ a, a < N → ∀ b, b < N → a ≠ b → (T a).2.1 ≠ (T b).2.1
def gFld (own : String) (idx ci k : Nat) (ty : FieldType) (fin : Bool) : Prop := ∃ (C : String) (T : u_T) (N : Nat) (ref : String), gCls ci C T N ∧ k < N ∧ parseFieldDescriptor (T k).2.2.1 = some ty ∧ (T k).2.2.2 = fin ∧ (fin = true → (T k).1 = own ∧ ref = own ∧ Cond.fieldLink own idx ref (T k).2.1 (T k).2.2.1 ∈ gT) ∧ (ref = (T k).1 ∨ Cond.sameField ref (T k).1 (T k).2.1 (T k).2.2.1 ∈ gT) ∧
  (Cond.fieldLink own idx ref (T k).2.1 (T k).2.2.1 ∈ gT ∨ ∃ host, (own, idx, ref, (T k).2.1, (T k).2.2.1, host) ∈ gNF)
def gGet (own : String) (idx ci k : Nat) (ty : FieldType) : Prop := ∃ (C : String) (T : u_T) (N : Nat) (ref : String), gCls ci C T N ∧ k < N ∧ parseFieldDescriptor (T k).2.2.1 = some ty ∧ (ref = (T k).1 ∨ Cond.sameField ref (T k).1 (T k).2.1 (T k).2.2.1 ∈ gT) ∧
  (Cond.fieldLink own idx ref (T k).2.1 (T k).2.2.1 ∈ gT ∨ ∃ host, (own, idx, ref, (T k).2.1, (T k).2.2.1, host) ∈ gNF)
section GX2
variable {l : Launch} {E : gD} {Y : gY} {n0 s0 : Nat} {rv : Option Value} {res mm mm1 : gM} {lv lv' : List (Nat × gV)} {st st' : List gV}
theorem x_getV (pc : Nat) {idx ci k : Nat} {ty : FieldType} {r : Option Nat} {vv : gV} (w : gGet (yO Y) idx ci k ty) (hv : gfV ci k r mm = some (gv vv)) (hdg : decode (yB Y) pc = .ok (.getfield idx, 3)) (kk : xX l E Y n0 s0 rv res (pc + 3) lv (vv :: st) mm) : xX l E Y n0 s0 rv res pc lv (.inr (.inr r) :: st) mm := by
  obtain ⟨a, fs, rfl, hm, hfs⟩ := gfV_spec hv
  obtain ⟨C, T, N, ref, ⟨hc, hin, -, -⟩, hk, -, hsm, hlk⟩ := w
  refine x_same (fun {p e s m args below meth c H locs ls cells slots Q} Cx hH hS hl _ _ kk => ?_) kk
  obtain ⟨hx, hb, hr, hml, hown, hts, hlocks, hname, hK⟩ := Cx
  have hP : va_P E.1 gCl [(a, .inr (ci, fs))] H := g_one (hH.2 a _ hm).2
  have hsame : ∀ x, s.fieldFound? (T k).1 (T k).2.1 (T k).2.2.1 = some x → s.fieldFound? ref (T k).2.1 (T k).2.2.1 = some x := by
    rcases hsm with rfl | hsm
    · exact fun _ h => h
    · exact fun x h => u_same (hts _ (List.mem_cons_of_mem _ hsm)) x h
  rcases hlk with hlk | ⟨host, hlk⟩
  · exact va_get (D := E.1) (ci := ci) (C := C) (T := T) (N := N) (v := gv vv) (ws := [(a, .inr (ci, fs))]) hx hb hts (fun w h => List.mem_cons_of_mem _ (hin w h)) hown hK.1 hP 0 rfl hc k hk (hts _ (List.mem_cons_of_mem _ hlk)) hsame hfs hdg (kk _ hl)
  · exact va_getN (D := E.1) (ci := ci) (C := C) (T := T) (N := N) (v := gv vv) (ws := [(a, .inr (ci, fs))]) hx hb hts (fun w h => List.mem_cons_of_mem _ (hin w h)) hown hK.1 hP 0 rfl hc k hk (va_Nw.use rfl (hK.2.2.1 _ hlk)) hsame hfs hdg (kk _ hl)
theorem x_getI (pc : Nat) {idx ci k : Nat} {ty : FieldType} {r : Option Nat} {v : Int32} (hv : gfI ci k r mm = some v) (w : gGet (yO Y) idx ci k ty) (hdg : decode (yB Y) pc = .ok (.getfield idx, 3)) (kk : xX l E Y n0 s0 rv res (pc + 3) lv (.inl v :: st) mm) : xX l E Y n0 s0 rv res pc lv (.inr (.inr r) :: st) mm := x_getV pc w (vv := .inl v) (gfI_V hv) hdg kk
theorem x_getL (pc : Nat) {idx ci k : Nat} {ty : FieldType} {r : Option Nat} {v : Int64} (hv : gfL ci k r mm = some v) (w : gGet (yO Y) idx ci k ty) (hdg : decode (yB Y) pc = .ok (.getfield idx, 3)) (kk : xX l E Y n0 s0 rv res (pc + 3) lv (.inr (.inl v) :: st) mm) : xX l E Y n0 s0 rv res pc lv (.inr (.inr r) :: st) mm := x_getV pc w (vv := .inr (.inl v)) (gfL_V hv) hdg kk
theorem x_getR (pc : Nat) {idx ci k : Nat} {ty : FieldType} {r v : Option Nat} (hv : gfR ci k r mm = some v) (w : gGet (yO Y) idx ci k ty) (hdg : decode (yB Y) pc = .ok (.getfield idx, 3)) (kk : xX l E Y n0 s0 rv res (pc + 3) lv (.inr (.inr v) :: st) mm) : xX l E Y n0 s0 rv res pc lv (.inr (.inr r) :: st) mm := x_getV pc w (vv := .inr (.inr v)) (gfR_V hv) hdg kk
theorem x_putV (pc : Nat) {idx ci k : Nat} {ty : FieldType} {r : Option Nat} {vv : gV} (w : gFld (yO Y) idx ci k ty false) (hn : narrow ty (gv vv) = gv vv) (hfit : fits ty (gv vv) = true) (hv : gpV ci k r (gv vv) mm = some mm1) (hdg : decode (yB Y) pc = .ok (.putfield idx, 3)) (kk : xX l E Y n0 s0 rv res (pc + 3) lv st mm1) : xX l E Y n0 s0 rv res pc lv (vv :: .inr (.inr r) :: st) mm := by
  obtain ⟨a, fs, rfl, hm, hkl, rfl⟩ := gpV_spec hv
  obtain ⟨C, T, N, ref, ⟨hc, hin, ⟨ty0, hty⟩, hnm⟩, hk, hd, hfin, -, hsm, hlk⟩ := w
  refine x_write (mm1 := gU mm a _) rfl (fun {p e s m args below meth c H locs ls cells slots Q} Cx hH hS hl _ _ kk => ?_) kk
  obtain ⟨hx, hb, hr, hml, hown, hts0, hlocks, hname, hK⟩ := Cx
  have hts : ∀ w ∈ gT, w.before args s = true := fun w h => hts0 w (List.mem_cons_of_mem _ h)
  have hsame : ∀ x, s.fieldFound? (T k).1 (T k).2.1 (T k).2.2.1 = some x → s.fieldFound? ref (T k).2.1 (T k).2.2.1 = some x := by
    rcases hsm with rfl | hsm
    · exact fun _ h => h
    · exact fun x h => u_same (hts _ hsm) x h
  have hap := va_apart (own := yO Y) hts hin ty0 hty hnm hK.1 hc
  obtain ⟨hgA, r0, h1, cell, q1, q2, q3, q4⟩ := hH.2 a _ hm
  have hr0 : r0 = (C, T, N) := Option.some.inj (h1.symm.trans hc)
  subst hr0
  obtain ⟨hSl, hfc, kC, hkC, hkind⟩ := hK.1.1 ci _ hc
  obtain ⟨cf, kf, fi, f, hi, hsl⟩ := hSl k hk
  have hlay := hts _ (hin _ (u_in_lay hk))
  unfold u_lay at hlay
  rw [if_neg (by rw [hfin]; decide)] at hlay
  have hst := (u_facts hfc hkC (u_lays hts hin hk) hi).1
  have h6 := u_store hfc hkC hkind hlay hi hd hn hfit
  rcases hlk with hlk | ⟨host, hlk⟩
  · refine W.putK hx hb (f := f) ⟨hown, hts _ hlk, ⟨_, _, _, hsame _ hi⟩, hst⟩ (by rw [q2]; exact h6) q1 q3 (by rw [hsl]; exact k2_hasslot (q4 k hk)) rfl rfl hdg fun H' e1 e2 e3 => ?_
    rw [hsl] at e1 ⊢
    exact kk H' _ (hH.put ⟨hgA, _, hc, t_OB.to (V := updV (vp_V fs) k (gv vv)) ⟨_, e1, q2, q3, t_set q4 hap hk (gv vv)⟩ (fun j _ => vp_updV_set hkl (gv vv) j)⟩ e2 e3) (hS.put e2 e3 hgA)
  · refine va_WputK hx hb (f := f) hown (va_Nw.use rfl (hK.2.2.1 _ hlk)) (hsame _ hi) hst (by rw [q2]; exact h6) q1 q3 (by rw [hsl]; exact k2_hasslot (q4 k hk)) rfl rfl hdg fun H' e1 e2 e3 => ?_
    rw [hsl] at e1 ⊢
    exact kk H' _ (hH.put ⟨hgA, _, hc, t_OB.to (V := updV (vp_V fs) k (gv vv)) ⟨_, e1, q2, q3, t_set q4 hap hk (gv vv)⟩ (fun j _ => vp_updV_set hkl (gv vv) j)⟩ e2 e3) (hS.put e2 e3 hgA)
theorem x_putF (pc : Nat) {idx ci k : Nat} {ty : FieldType} {r : Option Nat} {vv : gV} (w : gFld (yO Y) idx ci k ty true) (hinit : yN Y = "<init>") (hn : narrow ty (gv vv) = gv vv) (hfit : fits ty (gv vv) = true) (hv : gpV ci k r (gv vv) mm = some mm1) (hdg : decode (yB Y) pc = .ok (.putfield idx, 3)) (kk : xX l E Y n0 s0 rv res (pc + 3) lv st mm1) : xX l E Y n0 s0 rv res pc lv (vv :: .inr (.inr r) :: st) mm := by
  obtain ⟨a, fs, rfl, hm, hkl, rfl⟩ := gpV_spec hv
  obtain ⟨C, T, N, ref, ⟨hc, hin, ⟨ty0, hty⟩, hnm⟩, hk, hd, hfin, hf2, -, -⟩ := w
  obtain ⟨hdecl, href, hlk⟩ := hf2 rfl
  refine x_write (mm1 := gU mm a _) rfl (fun {p e s m args below meth c H locs ls cells slots Q} Cx hH hS hl _ _ kk => ?_) kk
  obtain ⟨hx, hb, hr, hml, hown, hts0, hlocks, hname, hK⟩ := Cx
  have hts : ∀ w ∈ gT, w.before args s = true := fun w h => hts0 w (List.mem_cons_of_mem _ h)
  have hap := va_apart (own := yO Y) hts hin ty0 hty hnm hK.1 hc
  obtain ⟨hgA, r0, h1, cell, q1, q2, q3, q4⟩ := hH.2 a _ hm
  have hr0 : r0 = (C, T, N) := Option.some.inj (h1.symm.trans hc)
  subst hr0
  obtain ⟨hSl, hfc, kC, hkC, hkind⟩ := hK.1.1 ci _ hc
  obtain ⟨cf, kf, fi, f, hi, hsl⟩ := hSl k hk
  have hlay := hts _ (hin _ (u_in_lay hk))
  unfold u_lay at hlay
  rw [if_pos hfin] at hlay
  have hst := (u_facts hfc hkC (u_lays hts hin hk) hi).1
  have hcf : m.cls = cf := by
    obtain ⟨_, _, c', _, _, _, -, -, hf', -, -, -, hown2, -⟩ := Cond.laysFinal_spec hlay
    have e1 : c' = cf := by have := hi.symm.trans hf'; simp at this; exact this.1.symm
    rw [hdecl] at hown2
    rw [← e1]; exact Option.some.inj (hown.symm.trans hown2)
  have h6 := u_fits hfc hkC hkind (Or.inr hlay) hi hd hn hfit
  have hi2 : s.fieldFound? ref (T k).2.1 (T k).2.2.1 = some (cf, kf, fi, f) := by rw [href, ← hdecl]; exact hi
  refine W.putFinK hx hb hown (hts _ hlk) hi2 hst hcf (hname.trans hinit) (by rw [q2]; exact h6) q1 q3 (by rw [hsl]; exact k2_hasslot (q4 k hk)) rfl rfl hdg fun H' e1 e2 e3 => ?_
  rw [hsl] at e1 ⊢
  exact kk H' _ (hH.put ⟨hgA, _, hc, t_OB.to (V := updV (vp_V fs) k (gv vv)) ⟨_, e1, q2, q3, t_set q4 hap hk (gv vv)⟩ (fun j _ => vp_updV_set hkl (gv vv) j)⟩ e2 e3) (hS.put e2 e3 hgA)
end GX2
theorem g_nI (x : Int32) : narrow .int (gv (.inl x)) = gv (.inl x) := rfl
theorem g_nL (x : Int64) : narrow .long (gv (.inr (.inl x))) = gv (.inr (.inl x)) := rfl
theorem g_nR (C : String) (r : Option Nat) : narrow (.object C) (gv (.inr (.inr r))) = gv (.inr (.inr r)) := by cases r <;> rfl
theorem g_nA (t : FieldType) (r : Option Nat) : narrow (.array t) (gv (.inr (.inr r))) = gv (.inr (.inr r)) := by cases r <;> rfl
theorem g_fR (C : String) (r : Option Nat) : fits (.object C) (gv (.inr (.inr r))) = true := by cases r <;> rfl
theorem g_fA (t : FieldType) (r : Option Nat) : fits (.array t) (gv (.inr (.inr r))) = true := by cases r <;> rfl
theorem g_nZ {x : Int32} (h : x = 0 ∨ x = 1) : narrow .boolean (gv (.inl x)) = gv (.inl x) := g_z h
theorem g_fZ {x : Int32} (h : x = 0 ∨ x = 1) : fits .boolean (gv (.inl x)) = true := by
  rcases h with rfl | rfl <;> decide +kernel
/-! arrays -/
def gar (r : Option Nat) (mm : gM) : Option (Nat × vp_A) := match r with
  | none => none
  | some a => match mm.1 a with
    | some (.inl x) => some x
    | _ => none
theorem gar_spec {r : Option Nat} {mm : gM} {x : Nat × vp_A} (h : gar r mm = some x) : ∃ a : Nat, r = some a ∧ mm.1 a = some (.inl x) := by
  unfold gar at h
  cases r with
  | none => cases h
  | some a =>
    dsimp only at h
    cases hm : mm.1 a with
    | none => rw [hm] at h; cases h
    | some e =>
      rw [hm] at h
      cases e with
      | inl y => cases h; exact ⟨a, rfl, hm⟩
      | inr o => cases h
/-- a length; the empty array that lists begin with lies outside the memory -/
def glen (r : Option Nat) (mm : gM) : Option Int32 := match gar r mm with
  | none => if r = some (mm.2.2.2.1 0) then some 0 else if r = some (mm.2.2.2.1 2) then some (Int32.ofNat mm.2.2.2.2.1) else none
  | some x => some (Int32.ofNat x.2.1)
def gaI (t : Nat) (r : Option Nat) (i : Int32) (mm : gM) : Option Int32 := match gar r mm with
  | some (t', n, .inl f) => if t' % 100 = t ∧ ¬ (i < 0 ∨ n ≤ i.toNatClampNeg) then some (f i.toNatClampNeg) else none
  | _ => if t = 0 ∧ r = some (mm.2.2.2.1 2) ∧ ¬ (i < 0 ∨ mm.2.2.2.2.1 ≤ i.toNatClampNeg) then some (mm.2.2.2.2.2 i.toNatClampNeg) else none
theorem gaI_spec {t : Nat} {r : Option Nat} {i v : Int32} {mm : gM} (h : gaI t r i mm = some v) : (∃ (a t' n : Nat) (f : Nat → Int32), r = some a ∧ mm.1 a = some (.inl (t', n, .inl f)) ∧ t' % 100 = t ∧ vp_in i n ∧ v = f i.toNatClampNeg) ∨ (t = 0 ∧ r = some (mm.2.2.2.1 2) ∧ vp_in i mm.2.2.2.2.1 ∧ v = mm.2.2.2.2.2 i.toNatClampNeg) := by
  unfold gaI at h
  split at h
  · next t' n f hg =>
    obtain ⟨a, rfl, hm⟩ := gar_spec hg
    by_cases hc : t' % 100 = t ∧ ¬ (i < 0 ∨ n ≤ i.toNatClampNeg)
    · rw [if_pos hc] at h; cases h
      exact Or.inl ⟨a, t', n, f, rfl, hm, hc.1, hc.2, rfl⟩
    · rw [if_neg hc] at h; cases h
  · by_cases hc : t = 0 ∧ r = some (mm.2.2.2.1 2) ∧ ¬ (i < 0 ∨ mm.2.2.2.2.1 ≤ i.toNatClampNeg)
    · rw [if_pos hc] at h; cases h
      exact Or.inr ⟨hc.1, hc.2.1, hc.2.2, rfl⟩
    · rw [if_neg hc] at h; cases h
def gaL (t : Nat) (r : Option Nat) (i : Int32) (mm : gM) : Option Int64 := match gar r mm with
  | some (t', n, .inr (.inl f)) => if t' % 100 = t ∧ ¬ (i < 0 ∨ n ≤ i.toNatClampNeg) then some (f i.toNatClampNeg) else none
  | _ => none
theorem gaL_spec {t : Nat} {r : Option Nat} {i : Int32} {v : Int64} {mm : gM} (h : gaL t r i mm = some v) : ∃ (a t' n : Nat) (f : Nat → Int64), r = some a ∧ mm.1 a = some (.inl (t', n, .inr (.inl f))) ∧ t' % 100 = t ∧ vp_in i n ∧ v = f i.toNatClampNeg := by
  unfold gaL at h
  split at h
  · next t' n f hg =>
    obtain ⟨a, rfl, hm⟩ := gar_spec hg
    by_cases hc : t' % 100 = t ∧ ¬ (i < 0 ∨ n ≤ i.toNatClampNeg)
    · rw [if_pos hc] at h; cases h
      exact ⟨a, t', n, f, rfl, hm, hc.1, hc.2, rfl⟩
    · rw [if_neg hc] at h; cases h
  · cases h
def gaR (t : Nat) (r : Option Nat) (i : Int32) (mm : gM) : Option (Option Nat) := match gar r mm with
  | some (t', n, .inr (.inr (.inr (.inr f)))) => if t' % 100 = t ∧ ¬ (i < 0 ∨ n ≤ i.toNatClampNeg) then some (f i.toNatClampNeg) else none
  | _ => none
theorem gaR_spec {t : Nat} {r : Option Nat} {i : Int32} {v : Option Nat} {mm : gM} (h : gaR t r i mm = some v) : ∃ (a t' n : Nat) (f : Nat → Option Nat), r = some a ∧ mm.1 a = some (.inl (t', n, .inr (.inr (.inr (.inr f))))) ∧ t' % 100 = t ∧ vp_in i n ∧ v = f i.toNatClampNeg := by
  unfold gaR at h
  split at h
  · next t' n f hg =>
    obtain ⟨a, rfl, hm⟩ := gar_spec hg
    by_cases hc : t' % 100 = t ∧ ¬ (i < 0 ∨ n ≤ i.toNatClampNeg)
    · rw [if_pos hc] at h; cases h
      exact ⟨a, t', n, f, rfl, hm, hc.1, hc.2, rfl⟩
    · rw [if_neg hc] at h; cases h
  · cases h
def gsI (t : Nat) (r : Option Nat) (i x : Int32) (mm : gM) : Option gM := match gar r mm with
  | some (t', n, .inl f) => if t' = t ∧ ¬ (i < 0 ∨ n ≤ i.toNatClampNeg) then some (gU mm (r.getD 0) (.inl (t, n, .inl (va_up f i.toNatClampNeg x)))) else none
  | _ => none
theorem gsI_spec {t : Nat} {r : Option Nat} {i x : Int32} {mm mm1 : gM} (h : gsI t r i x mm = some mm1) : ∃ (a n : Nat) (f : Nat → Int32), r = some a ∧ mm.1 a = some (.inl (t, n, .inl f)) ∧ vp_in i n ∧ mm1 = gU mm a (.inl (t, n, .inl (va_up f i.toNatClampNeg x))) := by
  unfold gsI at h
  split at h
  · next t' n f hg =>
    obtain ⟨a, rfl, hm⟩ := gar_spec hg
    by_cases hc : t' = t ∧ ¬ (i < 0 ∨ n ≤ i.toNatClampNeg)
    · rw [if_pos hc] at h; cases h
      obtain ⟨rfl, h2⟩ := hc
      exact ⟨a, n, f, rfl, hm, h2, rfl⟩
    · rw [if_neg hc] at h; cases h
  · cases h
def gsL (t : Nat) (r : Option Nat) (i : Int32) (x : Int64) (mm : gM) : Option gM := match gar r mm with
  | some (t', n, .inr (.inl f)) => if t' = t ∧ ¬ (i < 0 ∨ n ≤ i.toNatClampNeg) then some (gU mm (r.getD 0) (.inl (t, n, .inr (.inl (va_up f i.toNatClampNeg x))))) else none
  | _ => none
theorem gsL_spec {t : Nat} {r : Option Nat} {i : Int32} {x : Int64} {mm mm1 : gM} (h : gsL t r i x mm = some mm1) : ∃ (a n : Nat) (f : Nat → Int64), r = some a ∧ mm.1 a = some (.inl (t, n, .inr (.inl f))) ∧ vp_in i n ∧ mm1 = gU mm a (.inl (t, n, .inr (.inl (va_up f i.toNatClampNeg x)))) := by
  unfold gsL at h
  split at h
  · next t' n f hg =>
    obtain ⟨a, rfl, hm⟩ := gar_spec hg
    by_cases hc : t' = t ∧ ¬ (i < 0 ∨ n ≤ i.toNatClampNeg)
    · rw [if_pos hc] at h; cases h
      obtain ⟨rfl, h2⟩ := hc
      exact ⟨a, n, f, rfl, hm, h2, rfl⟩
    · rw [if_neg hc] at h; cases h
  · cases h
/-- what is stored into an array of references: nothing, or an object of one of these classes -/
def gok (cs : List Nat) (v : Option Nat) (mm : gM) : Bool := match v with
  | none => true
  | some b => match mm.1 b with
    | some (.inr o) => cs.contains o.1
    | _ => false
theorem gok_spec {cs : List Nat} {b : Nat} {mm : gM} (h : gok cs (some b) mm = true) : ∃ (ci : Nat) (fs : List Value), mm.1 b = some (.inr (ci, fs)) ∧ ci ∈ cs := by
  unfold gok at h
  dsimp only at h
  cases hm : mm.1 b with
  | none => rw [hm] at h; cases h
  | some e =>
    rw [hm] at h
    cases e with
    | inl x => cases h
    | inr o => exact ⟨o.1, o.2, rfl, by simpa using h⟩
def gsR (t : Nat) (cs : List Nat) (r : Option Nat) (i : Int32) (v : Option Nat) (mm : gM) : Option gM := match gar r mm with
  | some (t', n, .inr (.inr (.inr (.inr f)))) => if t' = t ∧ ¬ (i < 0 ∨ n ≤ i.toNatClampNeg) ∧ gok cs v mm = true then some (gU mm (r.getD 0) (.inl (t, n, .inr (.inr (.inr (.inr (va_up f i.toNatClampNeg v))))))) else none
  | _ => none
theorem gsR_spec {t : Nat} {cs : List Nat} {r : Option Nat} {i : Int32} {v : Option Nat} {mm mm1 : gM} (h : gsR t cs r i v mm = some mm1) : ∃ (a n : Nat) (f : Nat → Option Nat), r = some a ∧ mm.1 a = some (.inl (t, n, .inr (.inr (.inr (.inr f))))) ∧ vp_in i n ∧ gok cs v mm = true ∧ mm1 = gU mm a (.inl (t, n, .inr (.inr (.inr (.inr (va_up f i.toNatClampNeg v)))))) := by
  unfold gsR at h
  split at h
  · next t' n f hg =>
    obtain ⟨a, rfl, hm⟩ := gar_spec hg
    by_cases hc : t' = t ∧ ¬ (i < 0 ∨ n ≤ i.toNatClampNeg) ∧ gok cs v mm = true
    · rw [if_pos hc] at h; cases h
      obtain ⟨rfl, h2, h3⟩ := hc
      exact ⟨a, n, f, rfl, hm, h2, h3, rfl⟩
    · rw [if_neg hc] at h; cases h
  · cases h
theorem g_ty {E : gD} {s : State} (hK : gK E s) {t : Nat} {q : ClassId × FieldType} {ty : FieldType} (hq : E.2.1[t]? = some q) (ht : gTys[t]? = some ty) : q.2 = ty ∧ ArrOfT s q.1 ty ∧ va_RA s q.1 ty := by
  have h1 : (E.2.1.map Prod.snd)[t]? = some q.2 := by rw [List.getElem?_map, hq]; rfl
  rw [hK.2.1, ht] at h1
  have e := Option.some.inj h1
  have h2 := hK.1.2 t q hq
  rw [← e] at h2
  exact ⟨e.symm, h2⟩
theorem g_upV {α : Type} (mk : α → Value) (f : Nat → α) (k : Nat) (x : α) : updV (fun j => mk (f j)) k (mk x) = fun j => mk (va_up f k x j) := by
  funext q
  by_cases hq : q = k
  · subst hq
    simp [updV, va_up]
  · simp [updV, va_up, hq]
section GX3
variable {l : Launch} {E : gD} {Y : gY} {n0 s0 : Nat} {rv : Option Value} {res mm mm1 : gM} {lv lv' : List (Nat × gV)} {st st' : List gV}
theorem x_alen (pc : Nat) {r : Option Nat} {v : Int32} (hv : glen r mm = some v) (hdg : decode (yB Y) pc = .ok (.arraylength, 1)) (kk : xX l E Y n0 s0 rv res (pc + 1) lv (.inl v :: st) mm) : xX l E Y n0 s0 rv res pc lv (.inr (.inr r) :: st) mm := by
  unfold glen at hv
  split at hv
  · by_cases hc : r = some (mm.2.2.2.1 0)
    · rw [if_pos hc] at hv
      cases hv
      subst hc
      refine x_same (fun {p e s m args below meth c H locs ls cells slots Q} Cx hH hS hl _ _ kk => ?_) kk
      obtain ⟨hx, hb, hr, hml, hown, hts, hlocks, hname, hK⟩ := Cx
      have hT := hK.2.2.2.2.2.2.2.1
      rw [← hH.1.2.2] at hT
      exact va_tlen hx hb hT hS rfl hdg (kk _ hl)
    · rw [if_neg hc] at hv
      by_cases hc2 : r = some (mm.2.2.2.1 2)
      · rw [if_pos hc2] at hv
        cases hv
        subst hc2
        refine x_same (fun {p e s m args below meth c H locs ls cells slots Q} Cx hH hS hl _ _ kk => ?_) kk
        obtain ⟨hx, hb, hr, hml, hown, hts, hlocks, hname, hK⟩ := Cx
        obtain ⟨hX, hlt⟩ := hK.2.2.2.2.2.2.2.2.2.2
        rw [← hH.1.2.2] at hX hlt
        exact va_slen hx hb hX (Array.getElem?_eq_some_iff.mp hX.choose_spec.1).1 (Nat.not_le.mpr hlt) hS hdg (kk _ hl)
      · rw [if_neg hc2] at hv
        cases hv
  next x hg =>
  cases hv
  obtain ⟨a, rfl, hm⟩ := gar_spec hg
  refine x_same (fun {p e s m args below meth c H locs ls cells slots Q} Cx hH hS hl _ _ kk => ?_) kk
  obtain ⟨hx, hb, hr, hml, hown, hts, hlocks, hname, hK⟩ := Cx
  obtain ⟨h1, q, hq, hc⟩ := hH.2 a _ hm
  exact va_alen (D := E.1) (cl := gCl) (ws := [(a, .inl (q.1, x.2))]) (tys := E.2.1) hx hb hK.1 (g_one hc) 0 (x.1 % 100) rfl (ty := q.2) hq rfl hdg (kk _ hl)
theorem x_iald (pc : Nat) {t : Nat} {r : Option Nat} {i v : Int32} (ht : gTys[t]? = some .int) (hv : gaI t r i mm = some v) (hdg : decode (yB Y) pc = .ok (.iaload, 1)) (kk : xX l E Y n0 s0 rv res (pc + 1) lv (.inl v :: st) mm) : xX l E Y n0 s0 rv res pc lv (.inl i :: .inr (.inr r) :: st) mm := by
  rcases gaI_spec hv with ⟨a, t', n, f, rfl, hm, rfl, hin, rfl⟩ | ⟨-, rfl, hin, rfl⟩
  case inr =>
    refine x_same (fun {p e s m args below meth c H locs ls cells slots Q} Cx hH hS hl _ _ kk => ?_) kk
    obtain ⟨hx, hb, hr, hml, hown, hts, hlocks, hname, hK⟩ := Cx
    obtain ⟨hX, hlt⟩ := hK.2.2.2.2.2.2.2.2.2.2
    rw [← hH.1.2.2] at hX hlt
    exact va_sld hx hb hX (Array.getElem?_eq_some_iff.mp hX.choose_spec.1).1 (Nat.not_le.mpr hlt) hS hin hdg (kk _ hl)
  refine x_same (fun {p e s m args below meth c H locs ls cells slots Q} Cx hH hS hl _ _ kk => ?_) kk
  obtain ⟨hx, hb, hr, hml, hown, hts, hlocks, hname, hK⟩ := Cx
  obtain ⟨h1, ⟨cA, ty⟩, hq, hc⟩ := hH.2 a _ hm
  obtain ⟨rfl, -, -⟩ := g_ty hK hq ht
  exact va_iald (D := E.1) (cl := gCl) (ws := [(a, .inl (cA, n, .inl f))]) (tys := E.2.1) hx hb hK.1 (g_one hc) 0 (t' % 100) rfl hq hin hdg (kk _ hl)
theorem x_zald (pc : Nat) {t : Nat} {r : Option Nat} {i v : Int32} (ht : gTys[t]? = some .boolean) (hv : gaI t r i mm = some v) (hdg : decode (yB Y) pc = .ok (.baload, 1)) (kk : xX l E Y n0 s0 rv res (pc + 1) lv (.inl v :: st) mm) : xX l E Y n0 s0 rv res pc lv (.inl i :: .inr (.inr r) :: st) mm := by
  have h0t : ¬ t = 0 := by
    intro h0
    subst h0
    rw [show gTys[0]? = some .int from rfl] at ht
    cases ht
  rcases gaI_spec hv with ⟨a, t', n, f, rfl, hm, rfl, hin, rfl⟩ | ⟨h0, -, -, -⟩
  case inr => exact absurd h0 h0t
  refine x_same (fun {p e s m args below meth c H locs ls cells slots Q} Cx hH hS hl _ _ kk => ?_) kk
  obtain ⟨hx, hb, hr, hml, hown, hts, hlocks, hname, hK⟩ := Cx
  obtain ⟨h1, ⟨cA, ty⟩, hq, hc⟩ := hH.2 a _ hm
  obtain ⟨rfl, -, -⟩ := g_ty hK hq ht
  exact va_zald (D := E.1) (cl := gCl) (ws := [(a, .inl (cA, n, .inl f))]) (tys := E.2.1) hx hb hK.1 (g_one hc) 0 (t' % 100) rfl hq hin hdg (kk _ hl)
theorem x_lald (pc : Nat) {t : Nat} {r : Option Nat} {i : Int32} {v : Int64} (ht : gTys[t]? = some .long) (hv : gaL t r i mm = some v) (hdg : decode (yB Y) pc = .ok (.laload, 1)) (kk : xX l E Y n0 s0 rv res (pc + 1) lv (.inr (.inl v) :: st) mm) : xX l E Y n0 s0 rv res pc lv (.inl i :: .inr (.inr r) :: st) mm := by
  obtain ⟨a, t', n, f, rfl, hm, rfl, hin, rfl⟩ := gaL_spec hv
  refine x_same (fun {p e s m args below meth c H locs ls cells slots Q} Cx hH hS hl _ _ kk => ?_) kk
  obtain ⟨hx, hb, hr, hml, hown, hts, hlocks, hname, hK⟩ := Cx
  obtain ⟨h1, ⟨cA, ty⟩, hq, hc⟩ := hH.2 a _ hm
  obtain ⟨rfl, -, -⟩ := g_ty hK hq ht
  exact va_lald (D := E.1) (cl := gCl) (ws := [(a, .inl (cA, n, .inr (.inl f)))]) (tys := E.2.1) hx hb hK.1 (g_one hc) 0 (t' % 100) rfl hq hin hdg (kk _ hl)
theorem x_aald (pc : Nat) {t : Nat} {C : String} {r v : Option Nat} {i : Int32} (ht : gTys[t]? = some (.object C)) (hv : gaR t r i mm = some v) (hdg : decode (yB Y) pc = .ok (.aaload, 1)) (kk : xX l E Y n0 s0 rv res (pc + 1) lv (.inr (.inr v) :: st) mm) : xX l E Y n0 s0 rv res pc lv (.inl i :: .inr (.inr r) :: st) mm := by
  obtain ⟨a, t', n, f, rfl, hm, rfl, hin, rfl⟩ := gaR_spec hv
  refine x_same (fun {p e s m args below meth c H locs ls cells slots Q} Cx hH hS hl _ _ kk => ?_) kk
  obtain ⟨hx, hb, hr, hml, hown, hts, hlocks, hname, hK⟩ := Cx
  obtain ⟨h1, ⟨cA, ty⟩, hq, hc⟩ := hH.2 a _ hm
  obtain ⟨rfl, -, -⟩ := g_ty hK hq ht
  exact va_aldq (D := E.1) (cl := gCl) (C := C) (ws := [(a, .inl (cA, n, .inr (.inr (.inr (.inr f)))))]) (tys := E.2.1) hx hb hK.1 (g_one hc) 0 (t' % 100) rfl hq hin hdg (kk _ hl)
theorem x_iast (pc : Nat) {t : Nat} {r : Option Nat} {i x : Int32} (h100 : t < 100) (ht : gTys[t]? = some .int) (hv : gsI t r i x mm = some mm1) (hdg : decode (yB Y) pc = .ok (.iastore, 1)) (kk : xX l E Y n0 s0 rv res (pc + 1) lv st mm1) : xX l E Y n0 s0 rv res pc lv (.inl x :: .inl i :: .inr (.inr r) :: st) mm := by
  obtain ⟨a, n, f, rfl, hm, hin, rfl⟩ := gsI_spec hv
  refine x_write (mm1 := gU mm a _) rfl (fun {p e s m args below meth c H locs ls cells slots Q} Cx hH hS hl _ _ kk => ?_) kk
  obtain ⟨hx, hb, hr, hml, hown, hts, hlocks, hname, hK⟩ := Cx
  obtain ⟨h1, ⟨cA, ty⟩, hq, hc⟩ := hH.2 a _ hm
  have hq' := hq
  dsimp only at hq'
  rw [Nat.mod_eq_of_lt h100] at hq'
  obtain ⟨rfl, hAr, -⟩ := g_ty hK hq' ht
  refine W.iast hx hb hc (hAr n (fun j => .int (f j))) (fun h => by cases h) (by show ¬ (i < 0 ∨ (arrV _ _ _).slots.size ≤ _); rw [arrV_size]; exact hin) rfl rfl hdg fun H1 e1 z oq => ?_
  refine kk H1 _ (hH.put ⟨h1, _, hq, ?_⟩ z oq) (hS.put z oq (h1 h100))
  rw [e1]
  show some ((arrV cA n (fun j => .int (f j))).setSlot _ _) = some (arrV cA n (fun j => .int (va_up f _ _ j)))
  rw [arrV_store, g_upV (fun z => Value.int z)]
theorem x_zast (pc : Nat) {t : Nat} {r : Option Nat} {i x : Int32} (hx01 : x = 0 ∨ x = 1) (h100 : t < 100) (ht : gTys[t]? = some .boolean) (hv : gsI t r i x mm = some mm1) (hdg : decode (yB Y) pc = .ok (.bastore, 1)) (kk : xX l E Y n0 s0 rv res (pc + 1) lv st mm1) : xX l E Y n0 s0 rv res pc lv (.inl x :: .inl i :: .inr (.inr r) :: st) mm := by
  obtain ⟨a, n, f, rfl, hm, hin, rfl⟩ := gsI_spec hv
  refine x_write (mm1 := gU mm a _) rfl (fun {p e s m args below meth c H locs ls cells slots Q} Cx hH hS hl _ _ kk => ?_) kk
  obtain ⟨hx, hb, hr, hml, hown, hts, hlocks, hname, hK⟩ := Cx
  obtain ⟨h1, ⟨cA, ty⟩, hq, hc⟩ := hH.2 a _ hm
  have hq' := hq
  dsimp only at hq'
  rw [Nat.mod_eq_of_lt h100] at hq'
  obtain ⟨rfl, hAr, -⟩ := g_ty hK hq' ht
  refine W.zast hx hb hc (hAr n (fun j => .int (f j))) (fun h => by cases h) (by show ¬ (i < 0 ∨ (arrV _ _ _).slots.size ≤ _); rw [arrV_size]; exact hin) rfl rfl hdg fun H1 e1 z oq => ?_
  refine kk H1 _ (hH.put ⟨h1, _, hq, ?_⟩ z oq) (hS.put z oq (h1 h100))
  rw [e1, g_z hx01]
  show some ((arrV cA n (fun j => .int (f j))).setSlot _ _) = some (arrV cA n (fun j => .int (va_up f _ _ j)))
  rw [arrV_store, g_upV (fun z => Value.int z)]
theorem x_last (pc : Nat) {t : Nat} {r : Option Nat} {i : Int32} {x : Int64} (h100 : t < 100) (ht : gTys[t]? = some .long) (hv : gsL t r i x mm = some mm1) (hdg : decode (yB Y) pc = .ok (.lastore, 1)) (kk : xX l E Y n0 s0 rv res (pc + 1) lv st mm1) : xX l E Y n0 s0 rv res pc lv (.inr (.inl x) :: .inl i :: .inr (.inr r) :: st) mm := by
  obtain ⟨a, n, f, rfl, hm, hin, rfl⟩ := gsL_spec hv
  refine x_write (mm1 := gU mm a _) rfl (fun {p e s m args below meth c H locs ls cells slots Q} Cx hH hS hl _ _ kk => ?_) kk
  obtain ⟨hx, hb, hr, hml, hown, hts, hlocks, hname, hK⟩ := Cx
  obtain ⟨h1, ⟨cA, ty⟩, hq, hc⟩ := hH.2 a _ hm
  have hq' := hq
  dsimp only at hq'
  rw [Nat.mod_eq_of_lt h100] at hq'
  obtain ⟨rfl, hAr, -⟩ := g_ty hK hq' ht
  refine W.last hx hb hc (hAr n (fun j => .long (f j))) (fun h => by cases h) (by show ¬ (i < 0 ∨ (arrV _ _ _).slots.size ≤ _); rw [arrV_size]; exact hin) rfl rfl hdg fun H1 e1 z oq => ?_
  refine kk H1 _ (hH.put ⟨h1, _, hq, ?_⟩ z oq) (hS.put z oq (h1 h100))
  rw [e1]
  show some ((arrV cA n (fun j => .long (f j))).setSlot _ _) = some (arrV cA n (fun j => .long (va_up f _ _ j)))
  rw [arrV_store, g_upV (fun z => Value.long z)]
/-- the classes cs may lie in an array over D -/
def gInto (cs : List Nat) (D : String) : Prop := ∀ ci ∈ cs, ∃ (C : String) (T : u_T) (N : Nat), gCl[ci]? = some (C, T, N) ∧ (C = D ∨ (C, D) ∈ gNC)
theorem g_any {s : State} {H : Heap} {cs : List Nat} {D : String} {b : Nat} (hI : gInto cs D) (hK : gK E s) (hH : gH E mm H) (h : gok cs (some b) mm = true) : va_Any D s H b := by
  obtain ⟨ci, fs, hb, hci⟩ := gok_spec h
  obtain ⟨C, T, N, hc, hcd⟩ := hI ci hci
  refine va_rAny (ws := [(b, .inr (ci, fs))]) hK.1 (g_one (hH.2 b _ hb).2) (q0 := 0) rfl hc ?_
  intro comp c0 h1 h2
  rcases hcd with rfl | hcd
  · have e : comp = c0 := Option.some.inj (h1.symm.trans h2)
    subst e
    exact va_assign (C := C) ((hK.1.1 ci _ hc).2.1.symm.trans h1 |> Option.some.inj |> fun z => z ▸ (hK.1.1 ci _ hc).2)
  · obtain ⟨c1, t1, f1, f2, f3⟩ := Cond.castable_spec (va_Nw.use (A := #[]) rfl (hK.2.2.2.2.1 _ hcd))
    cases h2.symm.trans f1
    cases h1.symm.trans f2
    exact f3
theorem x_aast (pc : Nat) {t : Nat} {C : String} {cs : List Nat} {r v : Option Nat} {i : Int32} (h100 : t < 100) (ht : gTys[t]? = some (.object C)) (hI : gInto cs C) (hv : gsR t cs r i v mm = some mm1) (hdg : decode (yB Y) pc = .ok (.aastore, 1)) (kk : xX l E Y n0 s0 rv res (pc + 1) lv st mm1) : xX l E Y n0 s0 rv res pc lv (.inr (.inr v) :: .inl i :: .inr (.inr r) :: st) mm := by
  obtain ⟨a, n, f, rfl, hm, hin, hgo, rfl⟩ := gsR_spec hv
  refine x_write (mm1 := gU mm a _) rfl (fun {p e s m args below meth c H locs ls cells slots Q} Cx hH hS hl _ _ kk => ?_) kk
  obtain ⟨hx, hb, hr, hml, hown, hts, hlocks, hname, hK⟩ := Cx
  obtain ⟨h1, ⟨cA, ty⟩, hq, hc⟩ := hH.2 a _ hm
  have hq' := hq
  dsimp only at hq'
  rw [Nat.mod_eq_of_lt h100] at hq'
  obtain ⟨rfl, hAr, hRA⟩ := g_ty hK hq' ht
  have hlt : i.toNatClampNeg < n := Nat.not_le.mp fun q => hin (Or.inr q)
  have h0 : ¬ i < 0 := fun q => hin (Or.inl q)
  cases v with
  | none =>
    refine va_WaastN (C := C) hx hb hc (hAr n (fun j => va_rf (f j))) (fun h => by cases h) (by show ¬ (i < 0 ∨ (arrV _ _ _).slots.size ≤ _); rw [arrV_size]; exact hin) rfl rfl hdg fun H1 e1 z oq => ?_
    refine kk H1 _ (hH.put ⟨h1, _, hq, ?_⟩ z oq) (hS.put z oq (h1 h100))
    rw [e1]
    show some ((arrV cA n (fun j => va_rf (f j))).setSlot _ _) = some (arrV cA n (fun j => va_rf (va_up f _ _ j)))
    rw [arrV_store, ← g_upV (fun z => va_rf z)]
    rfl
  | some b =>
    obtain ⟨cellV, g1, g3, ⟨kC, hkC⟩, hasg⟩ := g_any hI hK hH hgo
    obtain ⟨kA, comp, k1, k2, k3, -⟩ := hRA
    obtain ⟨kE, hkE, -⟩ := Vm.findClass_spec k3
    refine W.aast hx hb hc (fun q h => by cases h) (fun h => by cases h) k1 k2 rfl hkE ⟨h0, by show _ < (arrV _ _ _).slots.size; rw [arrV_size]; exact hlt⟩ g1 (fun q h => by rw [h] at g3; cases g3) hkC (hasg _ k3) rfl rfl hdg fun H1 e1 z oq => ?_
    refine kk H1 _ (hH.put ⟨h1, _, hq, ?_⟩ z oq) (hS.put z oq (h1 h100))
    rw [e1]
    show some ((arrV cA n (fun j => va_rf (f j))).setSlot _ _) = some (arrV cA n (fun j => va_rf (va_up f _ _ j)))
    rw [arrV_store, ← g_upV (fun z => va_rf z)]
    rfl
end GX3
end
section
/-! making cells, casts, calls -/
def gnO (ci : Nat) (fs : List Value) (N : Nat) (mm : gM) : Option (Option Nat × gM) := some (some mm.2.1, gN mm (.inr (ci, fs)) N)
def gnI (t : Nat) (n : Int32) (mm : gM) : Option (Option Nat × gM) := if n < 0 ∨ 100000 < n.toNatClampNeg then none else some (some mm.2.1, gN mm (.inl (t, n.toNatClampNeg, .inl (fun _ => 0))) n.toNatClampNeg)
def gnL (t : Nat) (n : Int32) (mm : gM) : Option (Option Nat × gM) := if n < 0 ∨ 100000 < n.toNatClampNeg then none else some (some mm.2.1, gN mm (.inl (t, n.toNatClampNeg, .inr (.inl (fun _ => 0)))) n.toNatClampNeg)
def gnR (t : Nat) (n : Int32) (mm : gM) : Option (Option Nat × gM) := if n < 0 ∨ 100000 < n.toNatClampNeg then none else some (some mm.2.1, gN mm (.inl (t, n.toNatClampNeg, .inr (.inr (.inr (.inr (fun _ => none)))))) n.toNatClampNeg)
theorem gnA_spec {n : Int32} {mm mm1 : gM} {e : gE} {r : Option Nat} (h : (if n < 0 ∨ 100000 < n.toNatClampNeg then none else some (some mm.2.1, gN mm e n.toNatClampNeg)) = some (r, mm1)) : ¬ n < 0 ∧ n.toNatClampNeg ≤ 100000 ∧ r = some mm.2.1 ∧ mm1 = gN mm e n.toNatClampNeg := by
  by_cases hc : n < 0 ∨ 100000 < n.toNatClampNeg
  · rw [if_pos hc] at h; cases h
  · rw [if_neg hc] at h
    cases h
    exact ⟨fun z => hc (Or.inl z), Nat.le_of_not_lt fun z => hc (Or.inr z), rfl, rfl⟩
/-- what 'new' needs of the tables -/
def gNew (own : String) (idx ci N : Nat) (fs : List Value) : Prop := ∃ (C : String) (T : u_T) (ty : Nat → FieldType), gCl[ci]? = some (C, T, N) ∧ (∀ w ∈ u_ws C T N, w ∈ gT) ∧ (∀ k, k < N → parseFieldDescriptor (T k).2.2.1 = some (ty k)) ∧ Cond.classLink own idx C ∈ gT ∧ Cond.instantiable C N ∈ gT ∧ Cond.initialized C ∈ gT ∧ (∀ j, j < N → defaultValue (ty j) = vp_V fs j)
/-- what a call needs of the tables: v: by the receiver's class; i: a constructor; s: static -/
def gCb (own : String) (idx : Nat) (y : MethodName) (Y' : gY) : Prop := yC Y' = Cond.code y (yB Y') (yL Y') (yR Y') ∧ yC Y' ∈ gT ∧ Cond.initialized y.cls ∈ gT ∧ y.cls ≠ "java/lang/invoke/MethodHandle" ∧ y.cls ≠ "java/lang/invoke/VarHandle" ∧ (Cond.methodLink own idx y ∈ gT ∨ ∃ host, (own, idx, y, host) ∈ gNM)
def gCv (own : String) (idx : Nat) (y : MethodName) (Y' : gY) (ci : Nat) : Prop := gCb own idx y Y' ∧ Cond.instanceMethod y ∈ gT ∧ Cond.selects y.cls y y ∈ gT ∧ ∃ (T : u_T) (N : Nat), gCl[ci]? = some (y.cls, T, N)
def gCi (own : String) (idx : Nat) (y : MethodName) (Y' : gY) : Prop := gCb own idx y Y' ∧ Cond.instanceMethod y ∈ gT ∧ y.name = "<init>" ∧ yR Y' = none
def gCs (own : String) (idx : Nat) (y : MethodName) (Y' : gY) : Prop := gCb own idx y Y' ∧ Cond.static y ∈ gT
def gRoom (Y Y' : gY) (y : MethodName) (as st : List gV) (n : Nat) : Prop := as.length = n ∧ (parseMethodDescriptor y.desc).map (fun d => d.parameters.length) = some n ∧ yF Y' + 1 ≤ yF Y ∧ 8 + (yL Y' + 11) + yW Y' ≤ yW Y ∧ (st.map gc).sum ≤ 8
theorem g_good {Y Y' : gY} (h : yC Y' ∈ gT) : GoodIn (yC Y :: gT) (yC Y' :: gT) := by
  intro w hw
  have hin : w ∈ gT := by
    rcases List.mem_cons.mp hw with rfl | h2
    · exact h
    · exact h2
  exact ⟨List.mem_cons_of_mem _ hin, gT_good w hin⟩
theorem g_sum (st : List gV) : ((st.map gv).map fun v => v.category).sum = (st.map gc).sum := by
  rw [List.map_map]
  apply congrArg List.sum
  apply List.map_congr_left
  intro v _
  exact gv_cat v
section GX4
variable {l : Launch} {E : gD} {Y : gY} {n0 s0 : Nat} {rv : Option Value} {res mm mm1 : gM} {lv lv' : List (Nat × gV)} {st st' : List gV}
theorem g_new {H : Heap} (hH : gH E mm H) : gA E H.size := by
  show E.2.2.1 ≤ H.size
  rw [hH.1.1]
  exact hH.1.2.1
theorem x_new (pc : Nat) {idx ci N : Nat} {fs : List Value} {r : Option Nat} (w : gNew (yO Y) idx ci N fs) (hv : gnO ci fs N mm = some (r, mm1)) (hdg : decode (yB Y) pc = .ok (.new idx, 3)) (kk : xX l E Y n0 s0 rv res (pc + 3) lv (.inr (.inr r) :: st) mm1) : xX l E Y n0 s0 rv res pc lv st mm := by
  obtain ⟨C, T, ty, hc, hin, hty, w1, w2, w3, hfs⟩ := w
  have hv' : (some mm.2.1, gN mm (.inr (ci, fs)) N) = (r, mm1) := Option.some.inj hv
  cases hv'
  refine x_make (mm1 := gN mm _ _) (n := N) rfl (fun {p e s m args below meth c H locs ls cells slots Q} Cx hH hS hl hc1 hc2 kk => ?_) kk
  obtain ⟨hx, hb, hr, hml, hown, hts0, hlocks, hname, hK⟩ := Cx
  have hts : ∀ w ∈ gT, w.before args s = true := fun w h => hts0 w (List.mem_cons_of_mem _ h)
  have hKn := hK.1.1 ci _ hc
  have hgA := g_new hH
  refine W.newcK hx hb hown (hts _ w1) (hts _ w2) (hts _ w3) rfl hdg hc1 hc2 hKn.2.1 rfl fun H1 kC hkC e1 z1 o1 => ?_
  have kk2 := kk H1 locs (hH.push ⟨hgA, _, hc, (u_born ty hts hin hKn hkC e1 hty).to hfs⟩ z1 o1) ⟨Nat.le_trans hS.1 (by omega), fun q h1 h2 => (o1 q (Nat.lt_of_lt_of_le h1 hS.1)).trans (hS.2.1 q h1 h2), hS.2.2⟩
  rw [hH.1.1]
  exact kk2
theorem x_newI (pc : Nat) {t : Nat} {n : Int32} {r : Option Nat} (h100 : t < 100) (ht : gTys[t]? = some .int) (w : Cond.arrayClass .int ∈ gT) (hv : gnI t n mm = some (r, mm1)) (hdg : decode (yB Y) pc = .ok (.newarray .int, 2)) (kk : xX l E Y n0 s0 rv res (pc + 2) lv (.inr (.inr r) :: st) mm1) : xX l E Y n0 s0 rv res pc lv (.inl n :: st) mm := by
  obtain ⟨hn, hN, rfl, rfl⟩ := gnA_spec hv
  refine x_make (mm1 := gN mm _ _) (n := n.toNatClampNeg) rfl (fun {p e s m args below meth c H locs ls cells slots Q} Cx hH hS hl hc1 hc2 kk => ?_) kk
  obtain ⟨hx, hb, hr, hml, hown, hts0, hlocks, hname, hK⟩ := Cx
  have hts : ∀ w ∈ gT, w.before args s = true := fun w h => hts0 w (List.mem_cons_of_mem _ h)
  have hgA := g_new hH
  have hlen : t < E.2.1.length := by
    have h1 : t < (E.2.1.map Prod.snd).length := by rw [hK.2.1]; exact (List.getElem?_eq_some_iff.mp ht).1
    rwa [List.length_map] at h1
  have hq : E.2.1[t]? = some E.2.1[t] := List.getElem?_eq_getElem hlen
  obtain ⟨-, -, hRA⟩ := g_ty hK hq ht
  refine va_newaK (atype := .int) hx hb (hts _ w) rfl hdg rfl hn rfl (by show n.toNatClampNeg * 4 ≤ 536870912; omega) hc1 hc2 rfl fun H1 cA e1 z1 o1 _ hNm => ?_
  have hcA : (E.2.1[t]).1 = cA := Option.some.inj ((show s.vm.findClass _ = _ from hRA).symm.trans hNm)
  have kk2 := kk H1 locs (hH.push ⟨fun _ => hgA, E.2.1[t], by rw [Nat.mod_eq_of_lt h100]; exact hq, by rw [hcA]; exact e1⟩ z1 o1) ⟨Nat.le_trans hS.1 (by omega), fun q h1 h2 => (o1 q (Nat.lt_of_lt_of_le h1 hS.1)).trans (hS.2.1 q h1 h2), hS.2.2⟩
  rw [hH.1.1]
  exact kk2
theorem x_newZ (pc : Nat) {t : Nat} {n : Int32} {r : Option Nat} (h100 : t < 100) (ht : gTys[t]? = some .boolean) (w : Cond.arrayClass .boolean ∈ gT) (hv : gnI t n mm = some (r, mm1)) (hdg : decode (yB Y) pc = .ok (.newarray .boolean, 2)) (kk : xX l E Y n0 s0 rv res (pc + 2) lv (.inr (.inr r) :: st) mm1) : xX l E Y n0 s0 rv res pc lv (.inl n :: st) mm := by
  obtain ⟨hn, hN, rfl, rfl⟩ := gnA_spec hv
  refine x_make (mm1 := gN mm _ _) (n := n.toNatClampNeg) rfl (fun {p e s m args below meth c H locs ls cells slots Q} Cx hH hS hl hc1 hc2 kk => ?_) kk
  obtain ⟨hx, hb, hr, hml, hown, hts0, hlocks, hname, hK⟩ := Cx
  have hts : ∀ w ∈ gT, w.before args s = true := fun w h => hts0 w (List.mem_cons_of_mem _ h)
  have hgA := g_new hH
  have hlen : t < E.2.1.length := by
    have h1 : t < (E.2.1.map Prod.snd).length := by rw [hK.2.1]; exact (List.getElem?_eq_some_iff.mp ht).1
    rwa [List.length_map] at h1
  have hq : E.2.1[t]? = some E.2.1[t] := List.getElem?_eq_getElem hlen
  obtain ⟨-, -, hRA⟩ := g_ty hK hq ht
  refine va_newaK (atype := .boolean) hx hb (hts _ w) rfl hdg rfl hn rfl (by show n.toNatClampNeg * 1 ≤ 536870912; omega) hc1 hc2 rfl fun H1 cA e1 z1 o1 _ hNm => ?_
  have hcA : (E.2.1[t]).1 = cA := Option.some.inj ((show s.vm.findClass _ = _ from hRA).symm.trans hNm)
  have kk2 := kk H1 locs (hH.push ⟨fun _ => hgA, E.2.1[t], by rw [Nat.mod_eq_of_lt h100]; exact hq, by rw [hcA]; exact e1⟩ z1 o1) ⟨Nat.le_trans hS.1 (by omega), fun q h1 h2 => (o1 q (Nat.lt_of_lt_of_le h1 hS.1)).trans (hS.2.1 q h1 h2), hS.2.2⟩
  rw [hH.1.1]
  exact kk2
theorem x_newL (pc : Nat) {t : Nat} {n : Int32} {r : Option Nat} (h100 : t < 100) (ht : gTys[t]? = some .long) (w : Cond.arrayClass .long ∈ gT) (hv : gnL t n mm = some (r, mm1)) (hdg : decode (yB Y) pc = .ok (.newarray .long, 2)) (kk : xX l E Y n0 s0 rv res (pc + 2) lv (.inr (.inr r) :: st) mm1) : xX l E Y n0 s0 rv res pc lv (.inl n :: st) mm := by
  obtain ⟨hn, hN, rfl, rfl⟩ := gnA_spec hv
  refine x_make (mm1 := gN mm _ _) (n := n.toNatClampNeg) rfl (fun {p e s m args below meth c H locs ls cells slots Q} Cx hH hS hl hc1 hc2 kk => ?_) kk
  obtain ⟨hx, hb, hr, hml, hown, hts0, hlocks, hname, hK⟩ := Cx
  have hts : ∀ w ∈ gT, w.before args s = true := fun w h => hts0 w (List.mem_cons_of_mem _ h)
  have hgA := g_new hH
  have hlen : t < E.2.1.length := by
    have h1 : t < (E.2.1.map Prod.snd).length := by rw [hK.2.1]; exact (List.getElem?_eq_some_iff.mp ht).1
    rwa [List.length_map] at h1
  have hq : E.2.1[t]? = some E.2.1[t] := List.getElem?_eq_getElem hlen
  obtain ⟨-, -, hRA⟩ := g_ty hK hq ht
  refine va_newaK (atype := .long) hx hb (hts _ w) rfl hdg rfl hn rfl (by show n.toNatClampNeg * 8 ≤ 536870912; omega) hc1 hc2 rfl fun H1 cA e1 z1 o1 _ hNm => ?_
  have hcA : (E.2.1[t]).1 = cA := Option.some.inj ((show s.vm.findClass _ = _ from hRA).symm.trans hNm)
  have kk2 := kk H1 locs (hH.push ⟨fun _ => hgA, E.2.1[t], by rw [Nat.mod_eq_of_lt h100]; exact hq, by rw [hcA]; exact e1⟩ z1 o1) ⟨Nat.le_trans hS.1 (by omega), fun q h1 h2 => (o1 q (Nat.lt_of_lt_of_le h1 hS.1)).trans (hS.2.1 q h1 h2), hS.2.2⟩
  rw [hH.1.1]
  exact kk2
theorem x_newR (pc : Nat) {t idx : Nat} {C : String} {n : Int32} {r : Option Nat} (h100 : t < 100) (ht : gTys[t]? = some (.object C)) (w : Cond.classLink (yO Y) idx C ∈ gT) (w2 : C ∈ gAO) (hv : gnR t n mm = some (r, mm1)) (hdg : decode (yB Y) pc = .ok (.anewarray idx, 3)) (kk : xX l E Y n0 s0 rv res (pc + 3) lv (.inr (.inr r) :: st) mm1) : xX l E Y n0 s0 rv res pc lv (.inl n :: st) mm := by
  obtain ⟨hn, hN, rfl, rfl⟩ := gnA_spec hv
  refine x_make (mm1 := gN mm _ _) (n := n.toNatClampNeg) rfl (fun {p e s m args below meth c H locs ls cells slots Q} Cx hH hS hl hc1 hc2 kk => ?_) kk
  obtain ⟨hx, hb, hr, hml, hown, hts0, hlocks, hname, hK⟩ := Cx
  have hts : ∀ w ∈ gT, w.before args s = true := fun w h => hts0 w (List.mem_cons_of_mem _ h)
  have hgA := g_new hH
  have hlen : t < E.2.1.length := by
    have h1 : t < (E.2.1.map Prod.snd).length := by rw [hK.2.1]; exact (List.getElem?_eq_some_iff.mp ht).1
    rwa [List.length_map] at h1
  have hq : E.2.1[t]? = some E.2.1[t] := List.getElem?_eq_getElem hlen
  obtain ⟨-, -, kA0, comp0, -, -, -, hRA⟩ := g_ty hK hq ht
  refine W.anew hx hb hown (hts _ w) (va_AO.use (hK.2.2.2.2.2.1 _ w2)) rfl hdg rfl hn (by omega) hc1 hc2 fun cA kA comp f1 f2 f3 f4 => ?_
  have hcA : (E.2.1[t]).1 = cA := Option.some.inj (hRA.symm.trans f1)
  generalize hH1 : H.push ({ cls := cA, slots := Array.replicate n.toNatClampNeg .null, vm := .none } : Cell) = H1
  have z1 : H1.size = H.size + 1 := by rw [← hH1, Array.size_push]
  have e1 : H1[H.size]? = some (arrV cA n.toNatClampNeg (fun _ => .null)) := by rw [← hH1, Array.getElem?_push_size, ← arrV_new]
  have o1 : ∀ q : Nat, q < H.size → H1[q]? = H[q]? := fun q hq => by rw [← hH1, Array.getElem?_push, if_neg (Nat.ne_of_lt hq)]
  have kk2 := kk H1 locs (hH.push ⟨fun _ => hgA, E.2.1[t], by rw [Nat.mod_eq_of_lt h100]; exact hq, by rw [hcA]; exact e1⟩ z1 o1) ⟨Nat.le_trans hS.1 (by omega), fun q h1 h2 => (o1 q (Nat.lt_of_lt_of_le h1 hS.1)).trans (hS.2.1 q h1 h2), hS.2.2⟩
  rw [hH.1.1]
  exact kk2
/-- a cast to a class of ours -/
def gCast (ci : Nat) (r : Option Nat) (mm : gM) : Prop := r = none ∨ ∃ (a : Nat) (fs : List Value), r = some a ∧ mm.1 a = some (.inr (ci, fs))
def gcs (ci : Nat) (r : Option Nat) (mm : gM) : Option Unit := match r with
  | none => some ()
  | some a => match mm.1 a with
    | some (.inr o) => if o.1 = ci then some () else none
    | _ => none
theorem gcs_spec {ci : Nat} {r : Option Nat} {mm : gM} {u : Unit} (h : gcs ci r mm = some u) : gCast ci r mm := by
  unfold gcs at h
  cases r with
  | none => exact Or.inl rfl
  | some a =>
    dsimp only at h
    cases hm : mm.1 a with
    | none => rw [hm] at h; cases h
    | some e =>
      rw [hm] at h
      cases e with
      | inl x => cases h
      | inr o =>
        obtain ⟨c, fs⟩ := o
        dsimp only at h
        by_cases hc : c = ci
        · subst hc; exact Or.inr ⟨a, fs, rfl, hm⟩
        · rw [if_neg hc] at h; cases h
theorem x_cast (pc : Nat) {idx ci N : Nat} {C : String} {T : u_T} {r : Option Nat} {u : Unit} (hv : gcs ci r mm = some u) (hc : gCl[ci]? = some (C, T, N)) (w : Cond.classLink (yO Y) idx C ∈ gT) (hdg : decode (yB Y) pc = .ok (.checkcast idx, 3)) (kk : xX l E Y n0 s0 rv res (pc + 3) lv (.inr (.inr r) :: st) mm) : xX l E Y n0 s0 rv res pc lv (.inr (.inr r) :: st) mm := by
  rcases gcs_spec hv with rfl | ⟨a, fs, rfl, hm⟩
  · exact x_same (fun Cx hH hS hl _ _ kk => lv_castN Cx.1 Cx.2.1 hdg (kk _ hl)) kk
  · refine x_same (fun {p e s m args below meth c H locs ls cells slots Q} Cx hH hS hl _ _ kk => ?_) kk
    obtain ⟨hx, hb, hr, hml, hown, hts, hlocks, hname, hK⟩ := Cx
    exact va_castS hx hb hown (hts _ (List.mem_cons_of_mem _ w)) (hK.1.1 ci _ hc).2 (va_recv hK.1 (g_one (hH.2 a _ hm).2) hc (q0 := 0) rfl) hdg (kk _ hl)
/-! calls -/
theorem x_after {p : Program} {e : Env} {R : Room} {s : State} {m : MethodId} {args : Array Value} {below : List Frame} {meth : Method} {c : Code} {H : Heap} {locs : List Loc} {cells slots mc ms pc : Nat} {ls : Array Slot} {st0 rest : List Value} {a : Array Value} {rv1 : Option Value} {Q : State → Prop}
    (hr : va_Run p l e R s m args below meth c H locs cells slots mc ms (F0 m pc ls st0) rest (gQ E rv1 mm1 a) (gA E)) (hS : va_S (gA E) s.heap H locs)
    (kk : ∀ (H1 : Heap) (locs1 : List Loc), gH E mm1 H1 → va_S (gA E) s.heap H1 locs1 → W p l e R s m args below meth c H1 locs1 (cells + mc) (slots + ms) Q (F0 m (pc + 3) ls (rv1.toList ++ rest))) : W p l e R s m args below meth c H locs cells slots Q (F0 m pc ls st0) := by
  intro T hT X
  obtain ⟨v, st₀, t, T', L, h0, X', hL, e1, e2, ⟨hv, hb, hz, hk⟩, st⟩ := hr T hT X
  cases hv
  rw [h0] at hz hk
  obtain ⟨t2, a1, b1⟩ := kk T'.heap (locs ++ L) (by rw [e1]; exact hb)
    ⟨Nat.le_trans hS.1 (by rw [e1]; exact hz), fun q h1 h2 => by rw [e1, hk q (Nat.lt_of_lt_of_le h1 hS.1) h2]; exact hS.2.1 q h1 h2, fun q hq => by
      rcases List.mem_append.mp hq with h | h
      · exact hS.2.2 q h
      · exact hL q h⟩ T' rfl X'
  exact ⟨t2, st t2 a1, b1⟩
theorem g_blind {as : List gV} : FrameBlind (va_Pc (as.map gv) (fun U => gH E mm U.heap ∧ gK E U)) := by
  intro a U g mk q
  obtain ⟨q0, q1, q2⟩ := q
  exact ⟨q0, q1, q2.calling⟩
theorem g_pre {s : State} {H : Heap} {locs : List Loc} {as : List gV} (hH : gH E mm H) (hS : va_S (gA E) s.heap H locs) (hK : gK E s) : ∀ U : State, U.heap = H → s.WarmedH U.vm → va_Pc (as.map gv) (fun U => gH E mm U.heap ∧ gK E U) (as.map gv).toArray U := by
  intro U hU hW
  exact ⟨rfl, by rw [hU]; exact hH, hK.warm (locs := locs) hW (by rw [hU]; exact hS)⟩
/-- the shape of a call: what the kit's run of it gives, put behind the walk -/
theorem x_call {pc : Nat} {rv1 : Option Value} {rs : List gV} (hrs : rs.map gv = rv1.toList) (hle : gLe mm mm1)
    (h : ∀ {p : Program} {e : Env} {s : State} {m : MethodId} {args : Array Value} {below : List Frame} {meth : Method} {c : Code} {H : Heap} {locs : List Loc} {ls : Array Slot} {cells slots : Nat}, xC Y E p s m args meth c → gH E mm H → va_S (gA E) s.heap H locs → lv_has ls (yL Y) (lv.map gl) → cells + (mm1.2.1 - mm.2.1) ≤ res.2.1 - n0 → slots + (mm1.2.2.1 - mm.2.2.1) ≤ res.2.2.1 - s0 →
      ∃ a : Array Value, va_Run p l e (gR Y n0 s0 res) s m args below meth c H locs cells slots (mm1.2.1 - mm.2.1) (mm1.2.2.1 - mm.2.2.1) (F0 m pc ls (st.map gv)) (st'.map gv) (gQ E rv1 mm1 a) (gA E))
    (k : xX l E Y n0 s0 rv res (pc + 3) lv (rs ++ st') mm1) : xX l E Y n0 s0 rv res pc lv st mm := by
  obtain ⟨k1, k2⟩ := k
  obtain ⟨g1, g2⟩ := k1
  obtain ⟨g3, g4⟩ := hle
  refine ⟨⟨Nat.le_trans g3 g1, Nat.le_trans g4 g2⟩, ?_⟩
  intro p e s m args below meth c C hz h1 h2 H locs ls hH hS hl
  obtain ⟨a, hr⟩ := h (below := below) (cells := mm.2.1 - n0) (slots := mm.2.2.1 - s0) (e := e) C hH hS hl (by omega) (by omega)
  refine x_after hr hS (fun H1 locs1 hH1 hS1 => ?_)
  have e1 : mm.2.1 - n0 + (mm1.2.1 - mm.2.1) = mm1.2.1 - n0 := by omega
  have e2 : mm.2.2.1 - s0 + (mm1.2.2.1 - mm.2.2.1) = mm1.2.2.1 - s0 := by omega
  rw [e1, e2, ← hrs, ← List.map_append]
  exact k2 p e s m args below meth c C hz (by omega) (by omega) H1 locs1 ls hH1 hS1 hl
theorem g_sig {y : MethodName} {n : Nat} (h : (parseMethodDescriptor y.desc).map (fun d => d.parameters.length) = some n) : ∀ sig, parseMethodDescriptor y.desc = some sig → n = sig.parameters.length := by
  intro sig hs
  rw [hs] at h
  exact (Option.some.inj h).symm
theorem x_callV (pc n : Nat) {idx ci b : Nat} {Y' : gY} {y : MethodName} {as st2 : List gV} {rv1 : Option Value} {rs : List gV} {r : Option Nat} (km : ∀ (l : Launch) (E : gD), gLe mm mm1 ∧ gMet l E Y' y (.inr (.inr (some b)) :: as) rv1 mm mm1) (hrs : rs.map gv = rv1.toList) (w : gCv (yO Y) idx y Y' ci) (hrm : gRoom Y Y' y as st' n) (hb : grc ci r mm = some b) (hst : st2 = as.reverse ++ .inr (.inr r) :: st') (hdg : decode (yB Y) pc = .ok (.invokevirtual idx, 3))
    (k : xX l E Y n0 s0 rv res (pc + 3) lv (rs ++ st') mm1) : xX l E Y n0 s0 rv res pc lv st2 mm := by
  obtain ⟨⟨hcd, wc, wn, y1, y2, wl⟩, wi, wsel, T, N, hcl⟩ := w
  obtain ⟨r1, r2, r3, r4, r5⟩ := hrm
  obtain ⟨rfl, fs, hb⟩ := grc_spec hb
  subst hst
  refine x_call hrs (km l E).1 (fun {p e s m args below meth c H locs ls cells slots} Cx hH hS hl hc1 hc2 => ⟨((.inr (.inr (some b)) :: as).map gv).toArray, ?_⟩) k
  obtain ⟨hx, hbb, hr, hml, hown, hts, hlocks, hname, hK⟩ := Cx
  have hstk : (F0 m pc ls ((as.reverse ++ .inr (.inr (some b)) :: st').map gv)).stack = (as.map gv).reverse ++ .ref b :: st'.map gv := by
    show (as.reverse ++ .inr (.inr (some b)) :: st').map gv = _
    rw [List.map_append, List.map_reverse]; rfl
  have hW : 2 * (F0 m pc ls ((as.reverse ++ .inr (.inr (some b)) :: st').map gv)).monitorRoom + ((st'.map gv).map fun v => v.category).sum ≤ 8 := lv_room (by rw [g_sum]; exact r5)
  have hrecv := va_recv hK.1 (g_one (hH.2 b _ hb).2) hcl (q0 := 0) rfl
  rcases wl with wl | ⟨host, wl⟩
  · exact va_runV (As := as.map gv) (rest := st'.map gv) (bytes := yB Y') (maxL := yL Y') (ret := yR Y') (n := n) (C := y.cls) ⟨hx, hbb, hml, hown, hts⟩ (km l E).2
      ⟨callB_of n hts (g_good wc) (by rw [hcd]) rfl rfl (hts _ (List.mem_cons_of_mem _ wn)) (hts _ (List.mem_cons_of_mem _ wl)) ⟨y1, y2, r2⟩ ⟨r3, r4⟩, hts _ (List.mem_cons_of_mem _ wi), hts _ (List.mem_cons_of_mem _ wsel)⟩
      ⟨g_blind, hrecv, g_pre hH hS hK⟩ rfl (by rw [List.length_map]; exact r1) hl.1 hstk hW hdg ⟨hc1, hc2⟩
  · exact va_runVN (As := as.map gv) (rest := st'.map gv) (bytes := yB Y') (maxL := yL Y') (ret := yR Y') (n := n) (C := y.cls) (host := host) ⟨hx, hbb, hml, hown, hts⟩ (km l E).2
      ⟨va_cnB n hts (g_good wc) (by rw [hcd]) rfl rfl (hK.2.2.2.1 _ wl) (hts _ (List.mem_cons_of_mem _ wn)) ⟨y1, y2, r2⟩ ⟨r3, r4⟩, hts _ (List.mem_cons_of_mem _ wi), hts _ (List.mem_cons_of_mem _ wsel)⟩
      ⟨g_blind, hrecv, g_pre hH hS hK⟩ rfl (by rw [List.length_map]; exact r1) hl.1 hstk hW hdg ⟨hc1, hc2⟩
theorem x_callI (pc n : Nat) {idx b : Nat} {Y' : gY} {y : MethodName} {as st2 : List gV} (km : ∀ (l : Launch) (E : gD), gLe mm mm1 ∧ gMet l E Y' y (.inr (.inr (some b)) :: as) none mm mm1) (w : gCi (yO Y) idx y Y') (hrm : gRoom Y Y' y as st' n) (hst : st2 = as.reverse ++ .inr (.inr (some b)) :: st') (hdg : decode (yB Y) pc = .ok (.invokespecial idx, 3))
    (k : xX l E Y n0 s0 rv res (pc + 3) lv st' mm1) : xX l E Y n0 s0 rv res pc lv st2 mm := by
  obtain ⟨⟨hcd, wc, wn, y1, y2, wl⟩, wi, wnm, wr⟩ := w
  obtain ⟨r1, r2, r3, r4, r5⟩ := hrm
  subst hst
  refine x_call (rs := []) (rv1 := none) rfl (km l E).1 (fun {p e s m args below meth c H locs ls cells slots} Cx hH hS hl hc1 hc2 => ⟨((.inr (.inr (some b)) :: as).map gv).toArray, ?_⟩) k
  obtain ⟨hx, hbb, hr, hml, hown, hts, hlocks, hname, hK⟩ := Cx
  have hstk : (F0 m pc ls ((as.reverse ++ .inr (.inr (some b)) :: st').map gv)).stack = (as.map gv).reverse ++ .ref b :: st'.map gv := by
    show (as.reverse ++ .inr (.inr (some b)) :: st').map gv = _
    rw [List.map_append, List.map_reverse]; rfl
  have hW : 2 * (F0 m pc ls ((as.reverse ++ .inr (.inr (some b)) :: st').map gv)).monitorRoom + ((st'.map gv).map fun v => v.category).sum ≤ 8 := lv_room (by rw [g_sum]; exact r5)
  rw [wr] at hcd
  rcases wl with wl | ⟨host, wl⟩
  · exact va_runI (As := as.map gv) (rest := st'.map gv) (bytes := yB Y') (maxL := yL Y') (n := n) ⟨hx, hbb, hml, hown, hts⟩ (km l E).2
      ⟨callB_of n hts (g_good wc) (by rw [hcd]) rfl rfl (hts _ (List.mem_cons_of_mem _ wn)) (hts _ (List.mem_cons_of_mem _ wl)) ⟨y1, y2, r2⟩ ⟨r3, r4⟩, wnm, hts _ (List.mem_cons_of_mem _ wi)⟩
      ⟨g_blind, g_pre hH hS hK⟩ rfl (by rw [List.length_map]; exact r1) hl.1 hstk hW hdg ⟨hc1, hc2⟩
  · exact va_runIN (As := as.map gv) (rest := st'.map gv) (bytes := yB Y') (maxL := yL Y') (n := n) (host := host) ⟨hx, hbb, hml, hown, hts⟩ (km l E).2
      ⟨va_cnB n hts (g_good wc) (by rw [hcd]) rfl rfl (hK.2.2.2.1 _ wl) (hts _ (List.mem_cons_of_mem _ wn)) ⟨y1, y2, r2⟩ ⟨r3, r4⟩, wnm, hts _ (List.mem_cons_of_mem _ wi)⟩
      ⟨g_blind, g_pre hH hS hK⟩ rfl (by rw [List.length_map]; exact r1) hl.1 hstk hW hdg ⟨hc1, hc2⟩
theorem x_callS (pc n : Nat) {idx : Nat} {Y' : gY} {y : MethodName} {as st2 : List gV} {rv1 : Option Value} {rs : List gV} (km : ∀ (l : Launch) (E : gD), gLe mm mm1 ∧ gMet l E Y' y as rv1 mm mm1) (hrs : rs.map gv = rv1.toList) (w : gCs (yO Y) idx y Y') (hrm : gRoom Y Y' y as st' n) (hst : st2 = as.reverse ++ st') (hdg : decode (yB Y) pc = .ok (.invokestatic idx, 3))
    (k : xX l E Y n0 s0 rv res (pc + 3) lv (rs ++ st') mm1) : xX l E Y n0 s0 rv res pc lv st2 mm := by
  obtain ⟨⟨hcd, wc, wn, y1, y2, wl⟩, wi⟩ := w
  obtain ⟨r1, r2, r3, r4, r5⟩ := hrm
  subst hst
  refine x_call hrs (km l E).1 (fun {p e s m args below meth c H locs ls cells slots} Cx hH hS hl hc1 hc2 => ⟨(as.map gv).toArray, ?_⟩) k
  obtain ⟨hx, hbb, hr, hml, hown, hts, hlocks, hname, hK⟩ := Cx
  have hstk : (F0 m pc ls ((as.reverse ++ st').map gv)).stack = (as.map gv).reverse ++ st'.map gv := by
    show (as.reverse ++ st').map gv = _
    rw [List.map_append, List.map_reverse]
  have hW : 2 * (F0 m pc ls ((as.reverse ++ st').map gv)).monitorRoom + ((st'.map gv).map fun v => v.category).sum ≤ 8 := lv_room (by rw [g_sum]; exact r5)
  rcases wl with wl | ⟨host, wl⟩
  · exact va_runS (As := as.map gv) (rest := st'.map gv) (bytes := yB Y') (maxL := yL Y') (ret := yR Y') (n := n) ⟨hx, hbb, hml, hown, hts⟩ (km l E).2
      ⟨callB_of n hts (g_good wc) (by rw [hcd]) rfl rfl (hts _ (List.mem_cons_of_mem _ wn)) (hts _ (List.mem_cons_of_mem _ wl)) ⟨y1, y2, r2⟩ ⟨r3, r4⟩, hts _ (List.mem_cons_of_mem _ wi)⟩
      ⟨g_blind, g_pre hH hS hK⟩ rfl (by rw [List.length_map]; exact r1) hl.1 hstk hW hdg ⟨hc1, hc2⟩
  · exact va_runSN (As := as.map gv) (rest := st'.map gv) (bytes := yB Y') (maxL := yL Y') (ret := yR Y') (n := n) (host := host) ⟨hx, hbb, hml, hown, hts⟩ (km l E).2
      ⟨va_cnB n hts (g_good wc) (by rw [hcd]) rfl rfl (hK.2.2.2.1 _ wl) (hts _ (List.mem_cons_of_mem _ wn)) ⟨y1, y2, r2⟩ ⟨r3, r4⟩, hts _ (List.mem_cons_of_mem _ wi), trivial⟩
      ⟨g_blind, g_pre hH hS hK⟩ rfl (by rw [List.length_map]; exact r1) hl.1 hstk hW hdg ⟨hc1, hc2⟩
/-- Object's constructor -/
theorem x_objinit (pc : Nat) {idx : Nat} {r : Option Nat} {b : Nat} (hr0 : r = some b) (w1 : Cond.methodLink (yO Y) idx Lib.objectInit ∈ gT) (w2 : Cond.instanceMethod Lib.objectInit ∈ gT) (w3 : Cond.code Lib.objectInit ⟨#[0xb1]⟩ 1 none ∈ gT) (hf : 1 ≤ yF Y) (hlo : (st.map gc).sum + 12 ≤ yW Y) (hdg : decode (yB Y) pc = .ok (.invokespecial idx, 3)) (k : xX l E Y n0 s0 rv res (pc + 3) lv st mm) : xX l E Y n0 s0 rv res pc lv (.inr (.inr r) :: st) mm := by
  subst hr0
  refine x_same (fun {p e s m args below meth c H locs ls cells slots Q} Cx hH hS hl _ _ kk => ?_) k
  obtain ⟨hx, hb, hr, hml, hown, hts, hlocks, hname, hK⟩ := Cx
  refine W.objInit hx hb hown (hts _ (List.mem_cons_of_mem _ w1)) (hts _ (List.mem_cons_of_mem _ w2)) (hts _ (List.mem_cons_of_mem _ w3)) rfl (by rw [hml]; exact hl.1) (a := b) (rest := st.map gv) rfl hdg hf (by show 2 * 0 + _ + 12 ≤ yW Y; rw [g_sum]; omega) (kk _ hl)
end GX4
end
section
/-! switches, Math, System.arraycopy -/
def gcI (t : Nat) (r0 : Option Nat) (sp : Int32) (r1 : Option Nat) (dp n : Int32) (mm : gM) : Option gM := match gar r0 mm with
  | some (t0, n0, .inl f) => match gar r1 mm with
    | some (t1, n1, .inl g) => if t0 % 100 = t ∧ t1 = t ∧ ¬ sp < 0 ∧ ¬ dp < 0 ∧ ¬ n < 0 ∧ sp.toNatClampNeg + n.toNatClampNeg ≤ n0 ∧ dp.toNatClampNeg + n.toNatClampNeg ≤ n1 then some (gU mm (r1.getD 0) (.inl (t, n1, .inl (va_cpy f g sp.toNatClampNeg dp.toNatClampNeg n.toNatClampNeg)))) else none
    | _ => none
  | _ => none
theorem gcI_spec {t : Nat} {r0 r1 : Option Nat} {sp dp n : Int32} {mm mm1 : gM} (h : gcI t r0 sp r1 dp n mm = some mm1) : ∃ (a0 t0 n0 : Nat) (f : Nat → Int32) (a1 n1 : Nat) (g : Nat → Int32), r0 = some a0 ∧ r1 = some a1 ∧ mm.1 a0 = some (.inl (t0, n0, .inl f)) ∧ mm.1 a1 = some (.inl (t, n1, .inl g)) ∧ t0 % 100 = t ∧ ¬ sp < 0 ∧ ¬ dp < 0 ∧ ¬ n < 0 ∧ sp.toNatClampNeg + n.toNatClampNeg ≤ n0 ∧ dp.toNatClampNeg + n.toNatClampNeg ≤ n1 ∧ mm1 = gU mm a1 (.inl (t, n1, .inl (va_cpy f g sp.toNatClampNeg dp.toNatClampNeg n.toNatClampNeg))) := by
  unfold gcI at h
  split at h
  · next t0 n0 f hg0 =>
    split at h
    · next t1 n1 g hg1 =>
      obtain ⟨a0, rfl, hm0⟩ := gar_spec hg0
      obtain ⟨a1, rfl, hm1⟩ := gar_spec hg1
      by_cases hc : t0 % 100 = t ∧ t1 = t ∧ ¬ sp < 0 ∧ ¬ dp < 0 ∧ ¬ n < 0 ∧ sp.toNatClampNeg + n.toNatClampNeg ≤ n0 ∧ dp.toNatClampNeg + n.toNatClampNeg ≤ n1
      · rw [if_pos hc] at h; cases h
        obtain ⟨h1, rfl, h2⟩ := hc
        exact ⟨a0, t0, n0, f, a1, n1, g, rfl, rfl, hm0, hm1, h1, h2.1, h2.2.1, h2.2.2.1, h2.2.2.2.1, h2.2.2.2.2, rfl⟩
      · rw [if_neg hc] at h; cases h
    · cases h
  · cases h
def gcR (t : Nat) (cs : List Nat) (r0 : Option Nat) (sp : Int32) (r1 : Option Nat) (dp n : Int32) (mm : gM) : Option gM := match gar r0 mm with
  | some (t0, n0, .inr (.inr (.inr (.inr f)))) => match gar r1 mm with
    | some (t1, n1, .inr (.inr (.inr (.inr g)))) => if t0 % 100 = t ∧ t1 = t ∧ ¬ sp < 0 ∧ ¬ dp < 0 ∧ ¬ n < 0 ∧ sp.toNatClampNeg + n.toNatClampNeg ≤ n0 ∧ dp.toNatClampNeg + n.toNatClampNeg ≤ n1 ∧ (List.range n.toNatClampNeg).all (fun i => gok cs (f (sp.toNatClampNeg + i)) mm) = true then some (gU mm (r1.getD 0) (.inl (t, n1, .inr (.inr (.inr (.inr (va_cpy f g sp.toNatClampNeg dp.toNatClampNeg n.toNatClampNeg))))))) else none
    | _ => none
  | _ => none
theorem gcR_spec {t : Nat} {cs : List Nat} {r0 r1 : Option Nat} {sp dp n : Int32} {mm mm1 : gM} (h : gcR t cs r0 sp r1 dp n mm = some mm1) : ∃ (a0 t0 n0 : Nat) (f : Nat → Option Nat) (a1 n1 : Nat) (g : Nat → Option Nat), r0 = some a0 ∧ r1 = some a1 ∧ mm.1 a0 = some (.inl (t0, n0, .inr (.inr (.inr (.inr f))))) ∧ mm.1 a1 = some (.inl (t, n1, .inr (.inr (.inr (.inr g))))) ∧ t0 % 100 = t ∧ ¬ sp < 0 ∧ ¬ dp < 0 ∧ ¬ n < 0 ∧ sp.toNatClampNeg + n.toNatClampNeg ≤ n0 ∧ dp.toNatClampNeg + n.toNatClampNeg ≤ n1 ∧ (∀ i, i < n.toNatClampNeg → gok cs (f (sp.toNatClampNeg + i)) mm = true) ∧ mm1 = gU mm a1 (.inl (t, n1, .inr (.inr (.inr (.inr (va_cpy f g sp.toNatClampNeg dp.toNatClampNeg n.toNatClampNeg)))))) := by
  unfold gcR at h
  split at h
  · next t0 n0 f hg0 =>
    split at h
    · next t1 n1 g hg1 =>
      obtain ⟨a0, rfl, hm0⟩ := gar_spec hg0
      obtain ⟨a1, rfl, hm1⟩ := gar_spec hg1
      by_cases hc : t0 % 100 = t ∧ t1 = t ∧ ¬ sp < 0 ∧ ¬ dp < 0 ∧ ¬ n < 0 ∧ sp.toNatClampNeg + n.toNatClampNeg ≤ n0 ∧ dp.toNatClampNeg + n.toNatClampNeg ≤ n1 ∧ (List.range n.toNatClampNeg).all (fun i => gok cs (f (sp.toNatClampNeg + i)) mm) = true
      · rw [if_pos hc] at h; cases h
        obtain ⟨h1, rfl, h2⟩ := hc
        exact ⟨a0, t0, n0, f, a1, n1, g, rfl, rfl, hm0, hm1, h1, h2.1, h2.2.1, h2.2.2.1, h2.2.2.2.1, h2.2.2.2.2.1, fun i hi => List.all_eq_true.mp h2.2.2.2.2.2 i (List.mem_range.mpr hi), rfl⟩
      · rw [if_neg hc] at h; cases h
    · cases h
  · cases h
theorem g_nn (z : Int32) (hz : ¬ z < 0) : z.toInt = (z.toNatClampNeg : Int) := by
  have hz0 : (0 : Int) ≤ z.toInt := by
    have := Int32.not_lt.mp hz
    simpa using Int32.le_iff_toInt_le.mp this
  show z.toInt = ((z.toInt.toNat : Nat) : Int)
  omega
section GX5
variable {l : Launch} {E : gD} {Y : gY} {n0 s0 : Nat} {rv : Option Value} {res mm mm1 : gM} {lv lv' : List (Nat × gV)} {st st' : List gV}
theorem x_tsIn (pc tgt : Nat) (k : Int32) {x : Int32} {dflt lo hi off : Int} {offs : Array Int} {len : Nat} (hx : x = k) (hdg : decode (yB Y) pc = .ok (.tableswitch dflt lo hi offs, len)) (h1 : ¬ k.toInt < lo) (h2 : ¬ hi < k.toInt) (ho : offs[(k.toInt - lo).toNat]? = some off) (ht : (pc : Int) + off = (tgt : Int)) (kk : xX l E Y n0 s0 rv res tgt lv st mm) : xX l E Y n0 s0 rv res pc lv (.inl x :: st) mm := by
  subst hx
  exact x_same (fun C hH hS hl _ _ kk => lv_tableIn C.1 C.2.1 hdg h1 h2 ho ht (kk _ hl)) kk
theorem x_tsOut (pc tgt : Nat) {x : Int32} {dflt lo hi : Int} {offs : Array Int} {len : Nat} (hdg : decode (yB Y) pc = .ok (.tableswitch dflt lo hi offs, len)) (h : x.toInt < lo ∨ hi < x.toInt) (ht : (pc : Int) + dflt = (tgt : Int)) (kk : xX l E Y n0 s0 rv res tgt lv st mm) : xX l E Y n0 s0 rv res pc lv (.inl x :: st) mm :=
  x_same (fun C hH hS hl _ _ kk => lv_tableOut C.1 C.2.1 hdg h ht (kk _ hl)) kk
theorem g_ne {x : Int32} (k : Int32) (h : ¬ x = k) : x.toInt ≠ k.toInt := fun z => h (Int32.toInt_inj.mp z)
theorem x_mmax (pc : Nat) {idx : Nat} {x y : Int32} (w1 : Cond.methodLink (yO Y) idx Lib.Math.max.name ∈ gT) (w2 : Cond.static Lib.Math.max.name ∈ gT) (w3 : Cond.initialized "java/lang/Math" ∈ gT) (w4 : Cond.code Lib.Math.max.name Lib.Math.max.code 2 (some .int) ∈ gT) (hf : 1 ≤ yF Y) (hlo : (st.map gc).sum + 13 ≤ yW Y) (hdg : decode (yB Y) pc = .ok (.invokestatic idx, 3)) (kk : xX l E Y n0 s0 rv res (pc + 3) lv (.inl (if x < y then y else x) :: st) mm) : xX l E Y n0 s0 rv res pc lv (.inl y :: .inl x :: st) mm := by
  refine x_same (fun {p e s m args below meth c H locs ls cells slots Q} Cx hH hS hl hc1 hc2 kk => ?_) kk
  obtain ⟨hx, hb, hr, hml, hown, hts, hlocks, hname, hK⟩ := Cx
  exact va_mmax hx hb (by rw [hml]; exact hl.1.symm) hown (hts _ (List.mem_cons_of_mem _ w1)) (hts _ (List.mem_cons_of_mem _ w2)) (hts _ (List.mem_cons_of_mem _ w3)) (hts _ (List.mem_cons_of_mem _ w4)) hf (by rw [g_sum]; exact hlo) hc1 hc2 hdg (kk _ hl)
theorem x_mmin (pc : Nat) {idx : Nat} {x y : Int32} (w1 : Cond.methodLink (yO Y) idx Lib.Math.min.name ∈ gT) (w2 : Cond.static Lib.Math.min.name ∈ gT) (w3 : Cond.initialized "java/lang/Math" ∈ gT) (w4 : Cond.code Lib.Math.min.name Lib.Math.min.code 2 (some .int) ∈ gT) (hf : 1 ≤ yF Y) (hlo : (st.map gc).sum + 13 ≤ yW Y) (hdg : decode (yB Y) pc = .ok (.invokestatic idx, 3)) (kk : xX l E Y n0 s0 rv res (pc + 3) lv (.inl (if y < x then y else x) :: st) mm) : xX l E Y n0 s0 rv res pc lv (.inl y :: .inl x :: st) mm := by
  refine x_same (fun {p e s m args below meth c H locs ls cells slots Q} Cx hH hS hl hc1 hc2 kk => ?_) kk
  obtain ⟨hx, hb, hr, hml, hown, hts, hlocks, hname, hK⟩ := Cx
  exact va_mmin hx hb (by rw [hml]; exact hl.1.symm) hown (hts _ (List.mem_cons_of_mem _ w1)) (hts _ (List.mem_cons_of_mem _ w2)) (hts _ (List.mem_cons_of_mem _ w3)) (hts _ (List.mem_cons_of_mem _ w4)) hf (by rw [g_sum]; exact hlo) hc1 hc2 hdg (kk _ hl)
theorem x_mmaxL (pc : Nat) {idx : Nat} {x y : Int64} (w1 : Cond.methodLink (yO Y) idx Lib.MathLoose.max_long.x ∈ gT) (w2 : Cond.static Lib.MathLoose.max_long.x ∈ gT) (w3 : Cond.initialized "java/lang/Math" ∈ gT) (w4 : Cond.code Lib.MathLoose.max_long.x Lib.MathLoose.max_long.code 4 (some .long) ∈ gT) (hf : 1 ≤ yF Y) (hlo : (st.map gc).sum + 15 ≤ yW Y) (hdg : decode (yB Y) pc = .ok (.invokestatic idx, 3)) (kk : xX l E Y n0 s0 rv res (pc + 3) lv (.inr (.inl (if y < x then x else y)) :: st) mm) : xX l E Y n0 s0 rv res pc lv (.inr (.inl y) :: .inr (.inl x) :: st) mm := by
  refine x_same (fun {p e s m args below meth c H locs ls cells slots Q} Cx hH hS hl hc1 hc2 kk => ?_) kk
  obtain ⟨hx, hb, hr, hml, hown, hts, hlocks, hname, hK⟩ := Cx
  exact va_mmax_long hx hb (by rw [hml]; exact hl.1.symm) hown (hts _ (List.mem_cons_of_mem _ w1)) (hts _ (List.mem_cons_of_mem _ w2)) (hts _ (List.mem_cons_of_mem _ w3)) (hts _ (List.mem_cons_of_mem _ w4)) hf (by rw [g_sum]; exact hlo) hc1 hc2 hdg (kk _ hl)
theorem x_mabsL (pc : Nat) {idx : Nat} {x : Int64} (w1 : Cond.methodLink (yO Y) idx Lib.MathLoose.abs_long.x ∈ gT) (w2 : Cond.static Lib.MathLoose.abs_long.x ∈ gT) (w3 : Cond.initialized "java/lang/Math" ∈ gT) (w4 : Cond.code Lib.MathLoose.abs_long.x Lib.MathLoose.abs_long.code 2 (some .long) ∈ gT) (hf : 1 ≤ yF Y) (hlo : (st.map gc).sum + 13 ≤ yW Y) (hdg : decode (yB Y) pc = .ok (.invokestatic idx, 3)) (kk : xX l E Y n0 s0 rv res (pc + 3) lv (.inr (.inl (if 0 < x then x else -x)) :: st) mm) : xX l E Y n0 s0 rv res pc lv (.inr (.inl x) :: st) mm := by
  refine x_same (fun {p e s m args below meth c H locs ls cells slots Q} Cx hH hS hl hc1 hc2 kk => ?_) kk
  obtain ⟨hx, hb, hr, hml, hown, hts, hlocks, hname, hK⟩ := Cx
  exact va_mabs_long hx hb (by rw [hml]; exact hl.1.symm) hown (hts _ (List.mem_cons_of_mem _ w1)) (hts _ (List.mem_cons_of_mem _ w2)) (hts _ (List.mem_cons_of_mem _ w3)) (hts _ (List.mem_cons_of_mem _ w4)) hf (by rw [g_sum]; exact hlo) hc1 hc2 hdg (kk _ hl)
def gArr (own : String) (idx : Nat) : Prop := Cond.methodLink own idx arraycopyName ∈ gT ∧ Cond.native arraycopyName ∈ gT ∧ Cond.static arraycopyName ∈ gT ∧ Cond.initialized "java/lang/System" ∈ gT
theorem x_copyI (pc : Nat) {idx t : Nat} {r0 r1 : Option Nat} {sp dp n : Int32} (h100 : t < 100) (ht : gTys[t]? = some .int) (w : gArr (yO Y) idx) (hv : gcI t r0 sp r1 dp n mm = some mm1) (hf : 1 ≤ yF Y) (hlo : (st.map gc).sum + (nativeFrameWords "java/lang/System" "arraycopy" 5 + 11) ≤ yW Y) (hdg : decode (yB Y) pc = .ok (.invokestatic idx, 3)) (kk : xX l E Y n0 s0 rv res (pc + 3) lv st mm1) : xX l E Y n0 s0 rv res pc lv (.inl n :: .inl dp :: .inr (.inr r1) :: .inl sp :: .inr (.inr r0) :: st) mm := by
  obtain ⟨a0, t0, n0', f, a, n1, g, rfl, rfl, hm0, hm1, ht0, h1, h2, h3, h4, h5, rfl⟩ := gcI_spec hv
  obtain ⟨w1, w2, w3, w4⟩ := w
  refine x_write (mm1 := gU mm a _) rfl (fun {p e s m args below meth c H locs ls cells slots Q} Cx hH hS hl _ _ kk => ?_) kk
  obtain ⟨hx, hb, hr, hml, hown, hts0, hlocks, hname, hK⟩ := Cx
  have hts : ∀ w ∈ gT, w.before args s = true := fun w h => hts0 w (List.mem_cons_of_mem _ h)
  obtain ⟨-, ⟨c0, ty0⟩, hq0, hc0⟩ := hH.2 a0 _ hm0
  obtain ⟨hgA, ⟨c1, ty1⟩, hq1, hc1⟩ := hH.2 a _ hm1
  dsimp only at hq0 hc0 hc1
  have hq1' := hq1
  dsimp only at hq1'
  rw [Nat.mod_eq_of_lt h100] at hq1'
  rw [ht0] at hq0
  obtain ⟨rfl, hA0, -⟩ := g_ty hK hq0 ht
  obtain ⟨rfl, hA1, -⟩ := g_ty hK hq1' ht
  intro T hT X
  obtain ⟨-, k0, hk0, cm0, hkk0⟩ := hA0 n0' (fun j => .int (f j))
  obtain ⟨-, k1, hk1, cm1, hkk1⟩ := hA1 n1 (fun j => .int (g j))
  obtain ⟨vm', X', step⟩ := X.arraycopy hx hown (hts _ w1) (hts _ w2) (hts _ w3) (hts _ w4) (src := a0) (dst := a) (cs := vp_cell c0 (n0', .inl f)) (cd := vp_cell c1 (n1, .inl g)) (srcPos := sp) (destPos := dp) (n := n) (by rw [hT]; exact hc0) (by rw [hT]; exact hc1)
    (fun _ h => by cases h) (fun _ h => by cases h) (fun h => by cases h) (fun h => by cases h) hk0 hk1 hkk0 hkk1 (by simp [refKind]) h1 h2 h3
    (by rw [g_nn sp h1, g_nn n h3]; show ¬ _ > ((arrV c0 n0' (fun j => .int (f j))).slots.size : Int); rw [arrV_size]; omega)
    (by rw [g_nn dp h2, g_nn n h3]; show ¬ _ > ((arrV c1 n1 (fun j => .int (g j))).slots.size : Int); rw [arrV_size]; omega)
    (fun vm₁ _ i hi => by
      have e : (vp_cell c0 (n0', .inl f)).slots.getD (sp.toNatClampNeg + i) .null = .int (f (sp.toNatClampNeg + i)) := by
        show (arrV c0 n0' (fun j => .int (f j))).slots.getD _ _ = _
        rw [Array.getD_eq_getD_getElem?, arrV_read _ _ (by omega)]
        rfl
      refine ⟨?_, ?_⟩
      · rw [e]
        rfl
      · rw [e]
        exact trivial)
    (g := F0 m pc ls ((.inl n :: .inl dp :: .inr (.inr (some a)) :: .inl sp :: .inr (.inr (some a0)) :: st : List gV).map gv)) rfl (by rw [hml]; exact hl.1) (rest := st.map gv) rfl (by rw [hb]; exact hdg) hf (by show 2 * 0 + _ + _ ≤ _; rw [g_sum]; show _ ≤ yW Y; omega)
  have e1 : copied (vp_cell c0 (n0', .inl f)) (vp_cell c1 (n1, .inl g)) sp dp n = vp_cell c1 (n1, .inl (va_cpy f g sp.toNatClampNeg dp.toNatClampNeg n.toNatClampNeg)) := va_copied (fun z => .int z) c0 c1 f g h4
  rw [e1] at X' step
  have hl2 : a < H.size := (Array.getElem?_eq_some_iff.mp hc1).1
  have hheap : ((T.setVm vm').setCell a (vp_cell c1 (n1, .inl (va_cpy f g sp.toNatClampNeg dp.toNatClampNeg n.toNatClampNeg)))).heap = H.setIfInBounds a (vp_cell c1 (n1, .inl (va_cpy f g sp.toNatClampNeg dp.toNatClampNeg n.toNatClampNeg))) := by rw [← hT]; rfl
  have oq : ∀ q : Nat, q ≠ a → (H.setIfInBounds a (vp_cell c1 (n1, .inl (va_cpy f g sp.toNatClampNeg dp.toNatClampNeg n.toNatClampNeg))))[q]? = H[q]? := fun q hq => by simp [Array.getElem?_setIfInBounds, Ne.symm hq]
  obtain ⟨t, a1, b1⟩ := kk _ _ (hH.put ⟨hgA, _, hq1, (show (H.setIfInBounds a _)[a]? = some _ by simp [Array.getElem?_setIfInBounds, hl2])⟩ (by simp) oq) ⟨by simp; exact hS.1, fun q g1 g2 => by
      rw [oq q (fun e => g2 (by rw [e]; exact hgA h100))]
      exact hS.2.1 q g1 g2, fun q hq => by
      rcases List.mem_append.mp hq with h | h
      · exact hS.2.2 q h
      · obtain ⟨z, -, hz⟩ := List.mem_map.mp h
        rw [← hz]
        exact hgA h100⟩ _ hheap X'
  exact ⟨t, step t a1, b1⟩
theorem x_copyR (pc : Nat) {idx t : Nat} {cs : List Nat} {C : String} {r0 r1 : Option Nat} {sp dp n : Int32} (h100 : t < 100) (ht : gTys[t]? = some (.object C)) (hI : gInto cs C) (w : gArr (yO Y) idx) (hv : gcR t cs r0 sp r1 dp n mm = some mm1) (hf : 1 ≤ yF Y) (hlo : (st.map gc).sum + (nativeFrameWords "java/lang/System" "arraycopy" 5 + 11) ≤ yW Y) (hdg : decode (yB Y) pc = .ok (.invokestatic idx, 3)) (kk : xX l E Y n0 s0 rv res (pc + 3) lv st mm1) : xX l E Y n0 s0 rv res pc lv (.inl n :: .inl dp :: .inr (.inr r1) :: .inl sp :: .inr (.inr r0) :: st) mm := by
  obtain ⟨a0, t0, n0', f, a, n1, g, rfl, rfl, hm0, hm1, ht0, h1, h2, h3, h4, h5, hel, rfl⟩ := gcR_spec hv
  obtain ⟨w1, w2, w3, w4⟩ := w
  refine x_write (mm1 := gU mm a _) rfl (fun {p e s m args below meth c H locs ls cells slots Q} Cx hH hS hl _ _ kk => ?_) kk
  obtain ⟨hx, hb, hr, hml, hown, hts0, hlocks, hname, hK⟩ := Cx
  have hts : ∀ w ∈ gT, w.before args s = true := fun w h => hts0 w (List.mem_cons_of_mem _ h)
  obtain ⟨-, ⟨c0, ty0⟩, hq0, hc0⟩ := hH.2 a0 _ hm0
  obtain ⟨hgA, ⟨c1, ty1⟩, hq1, hc1⟩ := hH.2 a _ hm1
  dsimp only at hq0 hc0 hc1
  have hq1' := hq1
  dsimp only at hq1'
  rw [Nat.mod_eq_of_lt h100] at hq1'
  rw [ht0] at hq0
  obtain ⟨rfl, hA0, -⟩ := g_ty hK hq0 ht
  obtain ⟨rfl, hA1, hRA1⟩ := g_ty hK hq1' ht
  intro T hT X
  obtain ⟨-, k0, hk0, cm0, hkk0⟩ := hA0 n0' (fun j => va_rf (f j))
  obtain ⟨-, k1, hk1, cm1, hkk1⟩ := hA1 n1 (fun j => va_rf (g j))
  obtain ⟨vm', X', step⟩ := X.arraycopy hx hown (hts _ w1) (hts _ w2) (hts _ w3) (hts _ w4) (src := a0) (dst := a) (cs := vp_cell c0 (n0', .inr (.inr (.inr (.inr f))))) (cd := vp_cell c1 (n1, .inr (.inr (.inr (.inr g))))) (srcPos := sp) (destPos := dp) (n := n) (by rw [hT]; exact hc0) (by rw [hT]; exact hc1)
    (fun _ h => by cases h) (fun _ h => by cases h) (fun h => by cases h) (fun h => by cases h) hk0 hk1 hkk0 hkk1 rfl h1 h2 h3
    (by rw [g_nn sp h1, g_nn n h3]; show ¬ _ > ((arrV c0 n0' (fun j => va_rf (f j))).slots.size : Int); rw [arrV_size]; omega)
    (by rw [g_nn dp h2, g_nn n h3]; show ¬ _ > ((arrV c1 n1 (fun j => va_rf (g j))).slots.size : Int); rw [arrV_size]; omega)
    (fun vm₁ hal i hi => by
      have e : (vp_cell c0 (n0', .inr (.inr (.inr (.inr f))))).slots.getD (sp.toNatClampNeg + i) .null = va_rf (f (sp.toNatClampNeg + i)) := by
        show (arrV c0 n0' (fun j => va_rf (f j))).slots.getD _ _ = _
        rw [Array.getD_eq_getD_getElem?, arrV_read _ _ (by omega)]
        rfl
      rw [e]
      have hel1 := hel i hi
      cases hy : f (sp.toNatClampNeg + i) with
      | none => exact ⟨rfl, trivial⟩
      | some y =>
        rw [hy] at hel1
        obtain ⟨cellV, g1, g2, ⟨kC, hkC⟩, hasg⟩ := g_any hI hK hH hel1
        obtain ⟨kA, comp, r1, r2, r3, -⟩ := hRA1
        cases hk1.symm.trans r1
        cases hkk1.symm.trans r2
        obtain ⟨kE, hkE, -⟩ := Vm.findClass_spec r3
        obtain ⟨kC', hkC', -⟩ := hal.2.2 _ _ hkC
        obtain ⟨kE', hkE', -⟩ := hal.2.2 _ _ hkE
        refine ⟨rfl, cellV, (show T.heap[y]? = some cellV by rw [hT]; exact g1), (fun q h => by rw [h] at g2; cases g2), ⟨kC', hkC'⟩, ?_, ?_⟩
        · exact ⟨kE', hkE'⟩
        · show vm₁.assignable _ _ = true
          rw [hal.assignable]
          exact hasg _ r3)
    (g := F0 m pc ls ((.inl n :: .inl dp :: .inr (.inr (some a)) :: .inl sp :: .inr (.inr (some a0)) :: st : List gV).map gv)) rfl (by rw [hml]; exact hl.1) (rest := st.map gv) rfl (by rw [hb]; exact hdg) hf (by show 2 * 0 + _ + _ ≤ _; rw [g_sum]; show _ ≤ yW Y; omega)
  have e1 : copied (vp_cell c0 (n0', .inr (.inr (.inr (.inr f))))) (vp_cell c1 (n1, .inr (.inr (.inr (.inr g))))) sp dp n = vp_cell c1 (n1, .inr (.inr (.inr (.inr (va_cpy f g sp.toNatClampNeg dp.toNatClampNeg n.toNatClampNeg))))) := by
    rw [vp_cell_q, vp_cell_q, vp_cell_q]
    exact va_copied (fun z => va_rf z) c0 c1 f g h4
  rw [e1] at X' step
  have hl2 : a < H.size := (Array.getElem?_eq_some_iff.mp hc1).1
  have hheap : ((T.setVm vm').setCell a (vp_cell c1 (n1, .inr (.inr (.inr (.inr (va_cpy f g sp.toNatClampNeg dp.toNatClampNeg n.toNatClampNeg))))))).heap = H.setIfInBounds a (vp_cell c1 (n1, .inr (.inr (.inr (.inr (va_cpy f g sp.toNatClampNeg dp.toNatClampNeg n.toNatClampNeg)))))) := by rw [← hT]; rfl
  have oq : ∀ q : Nat, q ≠ a → (H.setIfInBounds a (vp_cell c1 (n1, .inr (.inr (.inr (.inr (va_cpy f g sp.toNatClampNeg dp.toNatClampNeg n.toNatClampNeg)))))))[q]? = H[q]? := fun q hq => by simp [Array.getElem?_setIfInBounds, Ne.symm hq]
  obtain ⟨t, a1, b1⟩ := kk _ _ (hH.put ⟨hgA, _, hq1, (show (H.setIfInBounds a _)[a]? = some _ by simp [Array.getElem?_setIfInBounds, hl2])⟩ (by simp) oq) ⟨by simp; exact hS.1, fun q g1 g2 => by
      rw [oq q (fun e => g2 (by rw [e]; exact hgA h100))]
      exact hS.2.1 q g1 g2, fun q hq => by
      rcases List.mem_append.mp hq with h | h
      · exact hS.2.2 q h
      · obtain ⟨z, -, hz⟩ := List.mem_map.mp h
        rw [← hz]
        exact hgA h100⟩ _ hheap X'
  exact ⟨t, step t a1, b1⟩
end GX5
end
section
/-! the JDK's own: the empty array of lists, getClass and the mirror of Object[], clone of an int array -/
def gmi (t : Nat) (r : Option Nat) (mm : gM) : Option (Option Nat) := match gar r mm with
  | some x => if x.1 = t then some (some (mm.2.2.2.1 1)) else none
  | none => none
def gclI (t : Nat) (r : Option Nat) (mm : gM) : Option (Option Nat × gM) := match gar r mm with
  | some (t', n, .inl f) => if t' = t then some (some mm.2.1, gN mm (.inl (t, n, .inl f)) n) else none
  | _ => none
def gcsA (t : Nat) (r : Option Nat) (mm : gM) : Option Unit := match gar r mm with
  | some x => if x.1 = t then some () else none
  | none => none
def gCln (own : String) (idx : Nat) : Prop := Cond.methodLink own idx ⟨"[I", "clone", "()Ljava/lang/Object;"⟩ ∈ gT ∧ Cond.sameMethod "[I" "java/lang/Object" "clone" "()Ljava/lang/Object;" ∈ gT ∧ Cond.native ⟨"java/lang/Object", "clone", "()Ljava/lang/Object;"⟩ ∈ gT ∧ Cond.instanceMethod ⟨"java/lang/Object", "clone", "()Ljava/lang/Object;"⟩ ∈ gT ∧ Cond.selects "[I" ⟨"[I", "clone", "()Ljava/lang/Object;"⟩ ⟨"java/lang/Object", "clone", "()Ljava/lang/Object;"⟩ ∈ gT ∧ ("[I", "java/lang/Cloneable") ∈ gNC
section GX6
variable {l : Launch} {E : gD} {Y : gY} {n0 s0 : Nat} {rv : Option Value} {res mm mm1 : gM} {lv lv' : List (Nat × gV)} {st st' : List gV}
theorem x_getS (pc : Nat) {idx : Nat} (w : Cond.fieldLink (yO Y) idx "java/util/ArrayList" "DEFAULTCAPACITY_EMPTY_ELEMENTDATA" "[Ljava/lang/Object;" ∈ gT) (hdg : decode (yB Y) pc = .ok (.getstatic idx, 3)) (kk : xX l E Y n0 s0 rv res (pc + 3) lv (.inr (.inr (some (mm.2.2.2.1 0))) :: st) mm) : xX l E Y n0 s0 rv res pc lv st mm := by
  refine x_same (fun {p e s m args below meth c H locs ls cells slots Q} Cx hH hS hl _ _ kk => ?_) kk
  obtain ⟨hx, hb, hr, hml, hown, hts, hlocks, hname, hK⟩ := Cx
  have hZ := hK.2.2.2.2.2.2.1 _ (List.mem_cons_self (a := ("java/util/ArrayList", "DEFAULTCAPACITY_EMPTY_ELEMENTDATA", "[Ljava/lang/Object;", 0)) (l := []))
  dsimp only at hZ
  rw [← hH.1.2.2] at hZ
  exact va_gets hx hb hZ hS hown (hts _ (List.mem_cons_of_mem _ w)) (fun _ h => h) hdg (kk _ hl)
theorem x_ldcM (pc : Nat) {idx : Nat} (w : Cond.classLink (yO Y) idx "[Ljava/lang/Object;" ∈ gT) (hdg : decode (yB Y) pc = .ok (.ldc idx, 2)) (kk : xX l E Y n0 s0 rv res (pc + 2) lv (.inr (.inr (some (mm.2.2.2.1 1))) :: st) mm) : xX l E Y n0 s0 rv res pc lv st mm := by
  refine x_same (fun {p e s m args below meth c H locs ls cells slots Q} Cx hH hS hl _ _ kk => ?_) kk
  obtain ⟨hx, hb, hr, hml, hown, hts, hlocks, hname, hK⟩ := Cx
  have hM := hK.2.2.2.2.2.2.2.2.1
  rw [← hH.1.2.2] at hM
  exact va_ldcM hx hb hown (hts _ (List.mem_cons_of_mem _ w)) hM hdg (kk _ hl)
theorem x_getC (pc : Nat) {idx : Nat} {r v : Option Nat} (hv : gmi 4 r mm = some v) (w1 : Cond.methodLink (yO Y) idx ⟨"java/lang/Object", "getClass", "()Ljava/lang/Class;"⟩ ∈ gT) (w2 : Cond.selects "[Ljava/lang/Object;" ⟨"java/lang/Object", "getClass", "()Ljava/lang/Class;"⟩ ⟨"java/lang/Object", "getClass", "()Ljava/lang/Class;"⟩ ∈ gT) (w3 : Cond.instanceMethod ⟨"java/lang/Object", "getClass", "()Ljava/lang/Class;"⟩ ∈ gT) (w4 : Cond.native ⟨"java/lang/Object", "getClass", "()Ljava/lang/Class;"⟩ ∈ gT) (hf : 1 ≤ yF Y) (hlo : (st.map gc).sum + 14 ≤ yW Y) (hdg : decode (yB Y) pc = .ok (.invokevirtual idx, 3)) (kk : xX l E Y n0 s0 rv res (pc + 3) lv (.inr (.inr v) :: st) mm) : xX l E Y n0 s0 rv res pc lv (.inr (.inr r) :: st) mm := by
  unfold gmi at hv
  split at hv
  case h_2 => cases hv
  next x hg =>
  by_cases hx4 : x.1 = 4
  case neg => rw [if_neg hx4] at hv; cases hv
  rw [if_pos hx4] at hv
  cases hv
  obtain ⟨a, rfl, hm⟩ := gar_spec hg
  refine x_same (fun {p e s m args below meth c H locs ls cells slots Q} Cx hH hS hl _ _ kk => ?_) kk
  obtain ⟨hx, hb, hr, hml, hown, hts, hlocks, hname, hK⟩ := Cx
  have hM := hK.2.2.2.2.2.2.2.2.1
  have hDc := hK.2.2.2.2.2.2.2.2.2.1
  rw [← hH.1.2.2] at hM
  obtain ⟨-, ⟨cA, ty⟩, hq, hc⟩ := hH.2 a _ hm
  rw [hx4] at hq
  obtain ⟨rfl, -, kA, comp, -, -, -, hNm⟩ := g_ty hK hq (show gTys[4]? = some (.object "java/lang/Object") from rfl)
  refine va_getC hx hb (by rw [hml]; exact hl.1.symm) hown (hts _ (List.mem_cons_of_mem _ w1)) (va_Dc.use hDc) (hts _ (List.mem_cons_of_mem _ w2)) (hts _ (List.mem_cons_of_mem _ w3)) (hts _ (List.mem_cons_of_mem _ w4)) hM ⟨_, hc, ?_, ?_⟩ hf (by rw [g_sum]; exact hlo) hdg (kk _ hl)
  · obtain ⟨t0, n, f | f | f | f | f⟩ := x <;> rfl
  · have hcls : (vp_cell cA x.2).cls = cA := by obtain ⟨t0, n, f | f | f | f | f⟩ := x <;> rfl
    rw [hcls]
    exact hNm
theorem x_cloneI (pc : Nat) {idx t : Nat} {r v : Option Nat} (w : gCln (yO Y) idx) (ht : gTys[t]? = some .int) (hv : gclI t r mm = some (v, mm1)) (hf : 1 ≤ yF Y) (hlo : (st.map gc).sum + 14 ≤ yW Y) (hdg : decode (yB Y) pc = .ok (.invokevirtual idx, 3)) (kk : xX l E Y n0 s0 rv res (pc + 3) lv (.inr (.inr v) :: st) mm1) : xX l E Y n0 s0 rv res pc lv (.inr (.inr r) :: st) mm := by
  obtain ⟨w1, w2, w3, w4, w5, w6⟩ := w
  unfold gclI at hv
  split at hv
  case h_2 => cases hv
  next t' n f hg =>
  by_cases htt : t' = t
  case neg => rw [if_neg htt] at hv; cases hv
  rw [if_pos htt] at hv
  cases hv
  subst htt
  obtain ⟨a, rfl, hm⟩ := gar_spec hg
  refine x_make (mm1 := gN mm _ _) (n := n) rfl (fun {p e s m args below meth c H locs ls cells slots Q} Cx hH hS hl hc1 hc2 kk => ?_) kk
  obtain ⟨hx, hb, hr, hml, hown, hts0, hlocks, hname, hK⟩ := Cx
  have hts : ∀ w ∈ gT, w.before args s = true := fun w h => hts0 w (List.mem_cons_of_mem _ h)
  obtain ⟨h100, ⟨cA, ty⟩, hq, hcell⟩ := hH.2 a _ hm
  have hgA := g_new hH
  have h99 : t' < 100 := by
    have h1 : t' < gTys.length := (List.getElem?_eq_some_iff.mp ht).1
    have h2 : gTys.length ≤ 100 := by decide
    omega
  have hq' : E.2.1[t']? = some (cA, ty) := by
    dsimp only at hq
    rw [Nat.mod_eq_of_lt h99] at hq
    exact hq
  obtain ⟨hty, hAr, hRA⟩ := g_ty hK hq' ht
  dsimp only at hty hcell hRA
  have hty2 : ty = .int := hty
  subst hty2
  have hnm : s.vm.findClass "[I" = some cA := hRA
  obtain ⟨c0, t0', f1, f2, f3⟩ := Cond.castable_spec (va_Nw.use (A := args) rfl (hK.2.2.2.2.1 _ w6))
  cases hnm.symm.trans f1
  intro T hT X
  have hsz : (vp_cell cA (n, .inl f)).slots.size = n := arrV_size _ _ _
  have hcellT : T.heap[a]? = some (vp_cell cA (n, .inl f)) := by rw [hT]; exact hcell
  obtain ⟨-, kA, hkA, comp, hkind⟩ := State.isArrayOf_alike X.warmed.alike (hAr 0 (fun _ => .null))
  obtain ⟨-, kS, hkS, compS, hkindS⟩ := hAr 0 (fun _ => .null)
  obtain ⟨vm', X', stp⟩ := X.cloneArray hx hown (hts _ w1) (hts _ w2) (hts _ w3) (hts _ w4) (hts _ w5) (a := a) (cell := vp_cell cA (n, .inl f)) hcellT (fun k h => by cases h) (fun h => by cases h) hnm f2 f3
    (fun i v hv => by
      have hk' : T.vm.classes[cA]? = some kA := hkA
      have hv2 := va_fit (cA := cA) (n := n) (F := fun j => .int (f j)) (ty := .int) (fun i _ => rfl) i v hv
      show T.fitsSlot cA .none i v = true
      simpa [State.fitsSlot, State.slotType?, hk', hkind] using hv2)
    (g := F0 m pc ls ((.inr (.inr (some a)) :: st : List gV).map gv)) rfl (by rw [hml]; exact hl.1) (rest := st.map gv) rfl (by rw [hb]; exact hdg) hf (by show 2 * 0 + _ + 14 ≤ _; rw [g_sum]; show _ ≤ yW Y; omega) hc1 (by rw [hsz]; exact hc2) (hloader := Vm.clonesLoader_of_array hkS hkindS)
  rw [hsz] at X'
  generalize hH1 : H.push (vp_cell cA (n, .inl f)) = H1
  have z1 : H1.size = H.size + 1 := by rw [← hH1, Array.size_push]
  have e1 : H1[H.size]? = some (vp_cell cA (n, .inl f)) := by rw [← hH1, Array.getElem?_push_size]
  have o1 : ∀ q : Nat, q < H.size → H1[q]? = H[q]? := fun q hq => by rw [← hH1, Array.getElem?_push, if_neg (Nat.ne_of_lt hq)]
  obtain ⟨t2, b1, b2⟩ := kk H1 locs (hH.push ⟨fun _ => hgA, (cA, .int), hq, e1⟩ z1 o1) ⟨Nat.le_trans hS.1 (by omega), fun q h1 h2 => (o1 q (Nat.lt_of_lt_of_le h1 hS.1)).trans (hS.2.1 q h1 h2), hS.2.2⟩
    ((T.setVm vm').pushCell (vp_cell cA (n, .inl f))) (by rw [← hH1, ← hT]; rfl) X'
  refine ⟨t2, stp t2 ?_, b2⟩
  rw [hT, hH.1.1]
  exact b1
theorem x_castI (pc : Nat) {idx t : Nat} {r : Option Nat} {u : Unit} (ht : gTys[t]? = some .int) (hv : gcsA t r mm = some u) (w : Cond.classLink (yO Y) idx "[I" ∈ gT) (hdg : decode (yB Y) pc = .ok (.checkcast idx, 3)) (kk : xX l E Y n0 s0 rv res (pc + 3) lv (.inr (.inr r) :: st) mm) : xX l E Y n0 s0 rv res pc lv (.inr (.inr r) :: st) mm := by
  unfold gcsA at hv
  split at hv
  case h_2 => cases hv
  next x hg =>
  by_cases hxt : x.1 = t
  case neg => rw [if_neg hxt] at hv; cases hv
  obtain ⟨a, rfl, hm⟩ := gar_spec hg
  refine x_same (fun {p e s m args below meth c H locs ls cells slots Q} Cx hH hS hl _ _ kk => ?_) kk
  obtain ⟨hx, hb, hr, hml, hown, hts, hlocks, hname, hK⟩ := Cx
  obtain ⟨-, ⟨cA, ty⟩, hq, hc⟩ := hH.2 a _ hm
  have h99 : t < 100 := by
    have h1 : t < gTys.length := (List.getElem?_eq_some_iff.mp ht).1
    have h2 : gTys.length ≤ 100 := by decide
    omega
  rw [hxt, Nat.mod_eq_of_lt h99] at hq
  obtain ⟨-, -, hRA⟩ := g_ty hK hq ht
  have hnm : s.vm.findClass "[I" = some cA := hRA
  exact va_castA (D := E.1) (cl := gCl) (ws := [(a, .inl (cA, x.2))]) hx hb hown (hts _ (List.mem_cons_of_mem _ w)) (g_one hc) 0 rfl hnm hdg (kk _ hl)
end GX6
end
section
abbrev y_AbstractCollection_init : MethodName := ⟨"java/util/AbstractCollection", "<init>", "()V"⟩
abbrev b_AbstractCollection_init : ByteArray := prog_17_method_1_code
abbrev Y_AbstractCollection_init : gY := ("java/util/AbstractCollection", "<init>", b_AbstractCollection_init, Cond.code y_AbstractCollection_init b_AbstractCollection_init 1 (Option.none : Option Jvm.ClassFile.FieldType), 1, (Option.none : Option Jvm.ClassFile.FieldType), 1, 60)
abbrev y_AbstractList_init : MethodName := ⟨"java/util/AbstractList", "<init>", "()V"⟩
abbrev b_AbstractList_init : ByteArray := prog_18_method_1_code
abbrev Y_AbstractList_init : gY := ("java/util/AbstractList", "<init>", b_AbstractList_init, Cond.code y_AbstractList_init b_AbstractList_init 1 (Option.none : Option Jvm.ClassFile.FieldType), 1, (Option.none : Option Jvm.ClassFile.FieldType), 2, 80)
abbrev y_AL_init : MethodName := ⟨"java/util/ArrayList", "<init>", "()V"⟩
abbrev b_AL_init : ByteArray := prog_19_method_2_code
abbrev Y_AL_init : gY := ("java/util/ArrayList", "<init>", b_AL_init, Cond.code y_AL_init b_AL_init 1 (Option.none : Option Jvm.ClassFile.FieldType), 1, (Option.none : Option Jvm.ClassFile.FieldType), 3, 100)
abbrev y_Current_init : MethodName := ⟨"ShipSets$Current", "<init>", "()V"⟩
abbrev b_Current_init : ByteArray := prog_4_method_1_code
abbrev Y_Current_init : gY := ("ShipSets$Current", "<init>", b_Current_init, Cond.code y_Current_init b_Current_init 1 (Option.none : Option Jvm.ClassFile.FieldType), 1, (Option.none : Option Jvm.ClassFile.FieldType), 1, 60)
abbrev y_S_init : MethodName := ⟨"ShipSets", "<init>", "()V"⟩
abbrev b_S_init : ByteArray := prog_1_method_1_code
abbrev Y_S_init : gY := ("ShipSets", "<init>", b_S_init, Cond.code y_S_init b_S_init 1 (Option.none : Option Jvm.ClassFile.FieldType), 1, (Option.none : Option Jvm.ClassFile.FieldType), 4, 120)
abbrev y_M_init : MethodName := ⟨"ShipSetsModel", "<init>", "()V"⟩
abbrev b_M_init : ByteArray := prog_11_method_1_code
abbrev Y_M_init : gY := ("ShipSetsModel", "<init>", b_M_init, Cond.code y_M_init b_M_init 1 (Option.none : Option Jvm.ClassFile.FieldType), 1, (Option.none : Option Jvm.ClassFile.FieldType), 1, 60)
abbrev y_AL_size : MethodName := ⟨"java/util/ArrayList", "size", "()I"⟩
abbrev b_AL_size : ByteArray := prog_19_method_8_code
abbrev Y_AL_size : gY := ("java/util/ArrayList", "size", b_AL_size, Cond.code y_AL_size b_AL_size 1 (Option.some Jvm.ClassFile.FieldType.int), 1, (Option.some Jvm.ClassFile.FieldType.int), 0, 0)
abbrev y_Blocks_init : MethodName := ⟨"ShipSets$Blocks", "<init>", "()V"⟩
abbrev b_Blocks_init : ByteArray := prog_2_method_1_code
abbrev Y_Blocks_init : gY := ("ShipSets$Blocks", "<init>", b_Blocks_init, Cond.code y_Blocks_init b_Blocks_init 1 (Option.none : Option Jvm.ClassFile.FieldType), 1, (Option.none : Option Jvm.ClassFile.FieldType), 1, 60)
abbrev y_Clock_init : MethodName := ⟨"ShipSets$Clock", "<init>", "()V"⟩
abbrev b_Clock_init : ByteArray := prog_3_method_1_code
abbrev Y_Clock_init : gY := ("ShipSets$Clock", "<init>", b_Clock_init, Cond.code y_Clock_init b_Clock_init 1 (Option.none : Option Jvm.ClassFile.FieldType), 1, (Option.none : Option Jvm.ClassFile.FieldType), 1, 60)
abbrev y_Teller_init : MethodName := ⟨"ShipSets$Teller", "<init>", "()V"⟩
abbrev b_Teller_init : ByteArray := prog_8_method_1_code
abbrev Y_Teller_init : gY := ("ShipSets$Teller", "<init>", b_Teller_init, Cond.code y_Teller_init b_Teller_init 1 (Option.none : Option Jvm.ClassFile.FieldType), 1, (Option.none : Option Jvm.ClassFile.FieldType), 4, 120)
abbrev y_ArraysSupport_hugeLength : MethodName := ⟨"jdk/internal/util/ArraysSupport", "hugeLength", "(II)I"⟩
abbrev b_ArraysSupport_hugeLength : ByteArray := prog_26_method_28_code
abbrev Y_ArraysSupport_hugeLength : gY := ("jdk/internal/util/ArraysSupport", "hugeLength", b_ArraysSupport_hugeLength, Cond.code y_ArraysSupport_hugeLength b_ArraysSupport_hugeLength 3 (Option.some Jvm.ClassFile.FieldType.int), 3, (Option.some Jvm.ClassFile.FieldType.int), 0, 0)
abbrev y_ArraysSupport_newLength : MethodName := ⟨"jdk/internal/util/ArraysSupport", "newLength", "(III)I"⟩
abbrev b_ArraysSupport_newLength : ByteArray := prog_26_method_27_code
abbrev Y_ArraysSupport_newLength : gY := ("jdk/internal/util/ArraysSupport", "newLength", b_ArraysSupport_newLength, Cond.code y_ArraysSupport_newLength b_ArraysSupport_newLength 4 (Option.some Jvm.ClassFile.FieldType.int), 4, (Option.some Jvm.ClassFile.FieldType.int), 1, 60)
abbrev y_Arrays_copyOf2 : MethodName := ⟨"java/util/Arrays", "copyOf", "([Ljava/lang/Object;ILjava/lang/Class;)[Ljava/lang/Object;"⟩
abbrev b_Arrays_copyOf2 : ByteArray := prog_20_method_120_code
abbrev Y_Arrays_copyOf2 : gY := ("java/util/Arrays", "copyOf", b_Arrays_copyOf2, Cond.code y_Arrays_copyOf2 b_Arrays_copyOf2 4 (Option.some (Jvm.ClassFile.FieldType.array (Jvm.ClassFile.FieldType.object "java/lang/Object"))), 4, (Option.some (Jvm.ClassFile.FieldType.array (Jvm.ClassFile.FieldType.object "java/lang/Object"))), 1, 60)
abbrev y_Arrays_copyOf : MethodName := ⟨"java/util/Arrays", "copyOf", "([Ljava/lang/Object;I)[Ljava/lang/Object;"⟩
abbrev b_Arrays_copyOf : ByteArray := prog_20_method_119_code
abbrev Y_Arrays_copyOf : gY := ("java/util/Arrays", "copyOf", b_Arrays_copyOf, Cond.code y_Arrays_copyOf b_Arrays_copyOf 2 (Option.some (Jvm.ClassFile.FieldType.array (Jvm.ClassFile.FieldType.object "java/lang/Object"))), 2, (Option.some (Jvm.ClassFile.FieldType.array (Jvm.ClassFile.FieldType.object "java/lang/Object"))), 2, 83)
abbrev y_AL_grow2 : MethodName := ⟨"java/util/ArrayList", "grow", "(I)[Ljava/lang/Object;"⟩
abbrev b_AL_grow2 : ByteArray := prog_19_method_6_code
abbrev Y_AL_grow2 : gY := ("java/util/ArrayList", "grow", b_AL_grow2, Cond.code y_AL_grow2 b_AL_grow2 4 (Option.some (Jvm.ClassFile.FieldType.array (Jvm.ClassFile.FieldType.object "java/lang/Object"))), 4, (Option.some (Jvm.ClassFile.FieldType.array (Jvm.ClassFile.FieldType.object "java/lang/Object"))), 3, 104)
abbrev y_AL_grow : MethodName := ⟨"java/util/ArrayList", "grow", "()[Ljava/lang/Object;"⟩
abbrev b_AL_grow : ByteArray := prog_19_method_7_code
abbrev Y_AL_grow : gY := ("java/util/ArrayList", "grow", b_AL_grow, Cond.code y_AL_grow b_AL_grow 1 (Option.some (Jvm.ClassFile.FieldType.array (Jvm.ClassFile.FieldType.object "java/lang/Object"))), 1, (Option.some (Jvm.ClassFile.FieldType.array (Jvm.ClassFile.FieldType.object "java/lang/Object"))), 4, 127)
abbrev y_AL_add2 : MethodName := ⟨"java/util/ArrayList", "add", "(Ljava/lang/Object;[Ljava/lang/Object;I)V"⟩
abbrev b_AL_add2 : ByteArray := prog_19_method_24_code
abbrev Y_AL_add2 : gY := ("java/util/ArrayList", "add", b_AL_add2, Cond.code y_AL_add2 b_AL_add2 4 (Option.none : Option Jvm.ClassFile.FieldType), 4, (Option.none : Option Jvm.ClassFile.FieldType), 5, 147)
abbrev y_AL_add : MethodName := ⟨"java/util/ArrayList", "add", "(Ljava/lang/Object;)Z"⟩
abbrev b_AL_add : ByteArray := prog_19_method_25_code
abbrev Y_AL_add : gY := ("java/util/ArrayList", "add", b_AL_add, Cond.code y_AL_add b_AL_add 2 (Option.some Jvm.ClassFile.FieldType.boolean), 2, (Option.some Jvm.ClassFile.FieldType.boolean), 6, 170)
abbrev y_S_teller : MethodName := ⟨"ShipSets", "teller", "()I"⟩
abbrev b_S_teller : ByteArray := prog_1_method_2_code
abbrev Y_S_teller : gY := ("ShipSets", "teller", b_S_teller, Cond.code y_S_teller b_S_teller 1 (Option.some Jvm.ClassFile.FieldType.int), 1, (Option.some Jvm.ClassFile.FieldType.int), 7, 191)
abbrev y_M_teller : MethodName := ⟨"ShipSetsModel", "teller", "()I"⟩
abbrev b_M_teller : ByteArray := prog_11_method_6_code
abbrev Y_M_teller : gY := ("ShipSetsModel", "teller", b_M_teller, Cond.code y_M_teller b_M_teller 1 (Option.some Jvm.ClassFile.FieldType.int), 1, (Option.some Jvm.ClassFile.FieldType.int), 0, 0)
abbrev y_Preconditions_checkIndex : MethodName := ⟨"jdk/internal/util/Preconditions", "checkIndex", "(IILjava/util/function/BiFunction;)I"⟩
abbrev b_Preconditions_checkIndex : ByteArray := prog_27_method_11_code
abbrev Y_Preconditions_checkIndex : gY := ("jdk/internal/util/Preconditions", "checkIndex", b_Preconditions_checkIndex, Cond.code y_Preconditions_checkIndex b_Preconditions_checkIndex 3 (Option.some Jvm.ClassFile.FieldType.int), 3, (Option.some Jvm.ClassFile.FieldType.int), 0, 0)
abbrev y_Objects_checkIndex : MethodName := ⟨"java/util/Objects", "checkIndex", "(II)I"⟩
abbrev b_Objects_checkIndex : ByteArray := prog_23_method_17_code
abbrev Y_Objects_checkIndex : gY := ("java/util/Objects", "checkIndex", b_Objects_checkIndex, Cond.code y_Objects_checkIndex b_Objects_checkIndex 2 (Option.some Jvm.ClassFile.FieldType.int), 2, (Option.some Jvm.ClassFile.FieldType.int), 1, 22)
abbrev y_AL_elementData : MethodName := ⟨"java/util/ArrayList", "elementData", "(I)Ljava/lang/Object;"⟩
abbrev b_AL_elementData : ByteArray := prog_19_method_18_code
abbrev Y_AL_elementData : gY := ("java/util/ArrayList", "elementData", b_AL_elementData, Cond.code y_AL_elementData b_AL_elementData 2 (Option.some (Jvm.ClassFile.FieldType.object "java/lang/Object")), 2, (Option.some (Jvm.ClassFile.FieldType.object "java/lang/Object")), 0, 0)
abbrev y_AL_get : MethodName := ⟨"java/util/ArrayList", "get", "(I)Ljava/lang/Object;"⟩
abbrev b_AL_get : ByteArray := prog_19_method_20_code
abbrev Y_AL_get : gY := ("java/util/ArrayList", "get", b_AL_get, Cond.code y_AL_get b_AL_get 2 (Option.some (Jvm.ClassFile.FieldType.object "java/lang/Object")), 2, (Option.some (Jvm.ClassFile.FieldType.object "java/lang/Object")), 2, 43)
abbrev y_S_tellerAt : MethodName := ⟨"ShipSets", "tellerAt", "(I)LShipSets$Teller;"⟩
abbrev b_S_tellerAt : ByteArray := prog_1_method_27_code
abbrev Y_S_tellerAt : gY := ("ShipSets", "tellerAt", b_S_tellerAt, Cond.code y_S_tellerAt b_S_tellerAt 2 (Option.some (Jvm.ClassFile.FieldType.object "ShipSets$Teller")), 2, (Option.some (Jvm.ClassFile.FieldType.object "ShipSets$Teller")), 3, 64)
abbrev y_S_isKind : MethodName := ⟨"ShipSets", "isKind", "(I)Z"⟩
abbrev b_S_isKind : ByteArray := prog_1_method_21_code
abbrev Y_S_isKind : gY := ("ShipSets", "isKind", b_S_isKind, Cond.code y_S_isKind b_S_isKind 1 (Option.some Jvm.ClassFile.FieldType.boolean), 1, (Option.some Jvm.ClassFile.FieldType.boolean), 0, 0)
abbrev y_S_cellOf : MethodName := ⟨"ShipSets", "cellOf", "(II)I"⟩
abbrev b_S_cellOf : ByteArray := prog_1_method_26_code
abbrev Y_S_cellOf : gY := ("ShipSets", "cellOf", b_S_cellOf, Cond.code y_S_cellOf b_S_cellOf 2 (Option.some Jvm.ClassFile.FieldType.int), 2, (Option.some Jvm.ClassFile.FieldType.int), 1, 20)
abbrev y_S_isNumber : MethodName := ⟨"ShipSets", "isNumber", "(I)Z"⟩
abbrev b_S_isNumber : ByteArray := prog_1_method_20_code
abbrev Y_S_isNumber : gY := ("ShipSets", "isNumber", b_S_isNumber, Cond.code y_S_isNumber b_S_isNumber 1 (Option.some Jvm.ClassFile.FieldType.boolean), 1, (Option.some Jvm.ClassFile.FieldType.boolean), 0, 0)
abbrev y_S_isValue : MethodName := ⟨"ShipSets", "isValue", "(J)Z"⟩
abbrev b_S_isValue : ByteArray := prog_1_method_22_code
abbrev Y_S_isValue : gY := ("ShipSets", "isValue", b_S_isValue, Cond.code y_S_isValue b_S_isValue 2 (Option.some Jvm.ClassFile.FieldType.boolean), 2, (Option.some Jvm.ClassFile.FieldType.boolean), 0, 0)
abbrev y_S_isDay : MethodName := ⟨"ShipSets", "isDay", "(I)Z"⟩
abbrev b_S_isDay : ByteArray := prog_1_method_23_code
abbrev Y_S_isDay : gY := ("ShipSets", "isDay", b_S_isDay, Cond.code y_S_isDay b_S_isDay 1 (Option.some Jvm.ClassFile.FieldType.boolean), 1, (Option.some Jvm.ClassFile.FieldType.boolean), 0, 0)
abbrev y_Teller_placeOf : MethodName := ⟨"ShipSets$Teller", "placeOf", "(I)I"⟩
abbrev b_Teller_placeOf : ByteArray := prog_8_method_2_code
abbrev Y_Teller_placeOf : gY := ("ShipSets$Teller", "placeOf", b_Teller_placeOf, Cond.code y_Teller_placeOf b_Teller_placeOf 5 (Option.some Jvm.ClassFile.FieldType.int), 5, (Option.some Jvm.ClassFile.FieldType.int), 3, 64)
abbrev y_Teller_toldWith : MethodName := ⟨"ShipSets$Teller", "toldWith", "(I)LShipSets$Telling;"⟩
abbrev b_Teller_toldWith : ByteArray := prog_8_method_3_code
abbrev Y_Teller_toldWith : gY := ("ShipSets$Teller", "toldWith", b_Teller_toldWith, Cond.code y_Teller_toldWith b_Teller_toldWith 4 (Option.some (Jvm.ClassFile.FieldType.object "ShipSets$Telling")), 4, (Option.some (Jvm.ClassFile.FieldType.object "ShipSets$Telling")), 4, 88)
abbrev y_Telling_says : MethodName := ⟨"ShipSets$Telling", "says", "(IJI)Z"⟩
abbrev b_Telling_says : ByteArray := prog_9_method_2_code
abbrev Y_Telling_says : gY := ("ShipSets$Telling", "says", b_Telling_says, Cond.code y_Telling_says b_Telling_says 5 (Option.some Jvm.ClassFile.FieldType.boolean), 5, (Option.some Jvm.ClassFile.FieldType.boolean), 0, 0)
abbrev y_Telling_init : MethodName := ⟨"ShipSets$Telling", "<init>", "(IIIIJILShipSets$Telling;)V"⟩
abbrev b_Telling_init : ByteArray := prog_9_method_1_code
abbrev Y_Telling_init : gY := ("ShipSets$Telling", "<init>", b_Telling_init, Cond.code y_Telling_init b_Telling_init 9 (Option.none : Option Jvm.ClassFile.FieldType), 9, (Option.none : Option Jvm.ClassFile.FieldType), 1, 60)
abbrev y_AL_rangeCheckForAdd : MethodName := ⟨"java/util/ArrayList", "rangeCheckForAdd", "(I)V"⟩
abbrev b_AL_rangeCheckForAdd : ByteArray := prog_19_method_45_code
abbrev Y_AL_rangeCheckForAdd : gY := ("java/util/ArrayList", "rangeCheckForAdd", b_AL_rangeCheckForAdd, Cond.code y_AL_rangeCheckForAdd b_AL_rangeCheckForAdd 2 (Option.none : Option Jvm.ClassFile.FieldType), 2, (Option.none : Option Jvm.ClassFile.FieldType), 0, 0)
abbrev y_AL_add3 : MethodName := ⟨"java/util/ArrayList", "add", "(ILjava/lang/Object;)V"⟩
abbrev b_AL_add3 : ByteArray := prog_19_method_26_code
abbrev Y_AL_add3 : gY := ("java/util/ArrayList", "add", b_AL_add3, Cond.code y_AL_add3 b_AL_add3 5 (Option.none : Option Jvm.ClassFile.FieldType), 5, (Option.none : Option Jvm.ClassFile.FieldType), 5, 147)
abbrev y_Teller_keep : MethodName := ⟨"ShipSets$Teller", "keep", "(LShipSets$Telling;)V"⟩
abbrev b_Teller_keep : ByteArray := prog_8_method_4_code
abbrev Y_Teller_keep : gY := ("ShipSets$Teller", "keep", b_Teller_keep, Cond.code y_Teller_keep b_Teller_keep 2 (Option.none : Option Jvm.ClassFile.FieldType), 2, (Option.none : Option Jvm.ClassFile.FieldType), 6, 171)
abbrev y_S_tell : MethodName := ⟨"ShipSets", "tell", "(IIIIJI)I"⟩
abbrev b_S_tell : ByteArray := prog_1_method_3_code
abbrev Y_S_tell : gY := ("ShipSets", "tell", b_S_tell, Cond.code y_S_tell b_S_tell 12 (Option.some Jvm.ClassFile.FieldType.int), 12, (Option.some Jvm.ClassFile.FieldType.int), 7, 192)
abbrev y_M_isTeller : MethodName := ⟨"ShipSetsModel", "isTeller", "(I)Z"⟩
abbrev b_M_isTeller : ByteArray := prog_11_method_4_code
abbrev Y_M_isTeller : gY := ("ShipSetsModel", "isTeller", b_M_isTeller, Cond.code y_M_isTeller b_M_isTeller 2 (Option.some Jvm.ClassFile.FieldType.boolean), 2, (Option.some Jvm.ClassFile.FieldType.boolean), 0, 0)
abbrev y_M_isIn : MethodName := ⟨"ShipSetsModel", "isIn", "(JJJ)Z"⟩
abbrev b_M_isIn : ByteArray := prog_11_method_3_code
abbrev Y_M_isIn : gY := ("ShipSetsModel", "isIn", b_M_isIn, Cond.code y_M_isIn b_M_isIn 6 (Option.some Jvm.ClassFile.FieldType.boolean), 6, (Option.some Jvm.ClassFile.FieldType.boolean), 0, 0)
abbrev y_M_told : MethodName := ⟨"ShipSetsModel", "told", "(II)I"⟩
abbrev b_M_told : ByteArray := prog_11_method_7_code
abbrev Y_M_told : gY := ("ShipSetsModel", "told", b_M_told, Cond.code y_M_told b_M_told 5 (Option.some Jvm.ClassFile.FieldType.int), 5, (Option.some Jvm.ClassFile.FieldType.int), 0, 0)
abbrev y_M_tell : MethodName := ⟨"ShipSetsModel", "tell", "(IIIIJI)I"⟩
abbrev b_M_tell : ByteArray := prog_11_method_8_code
abbrev Y_M_tell : gY := ("ShipSetsModel", "tell", b_M_tell, Cond.code y_M_tell b_M_tell 10 (Option.some Jvm.ClassFile.FieldType.int), 10, (Option.some Jvm.ClassFile.FieldType.int), 1, 25)
abbrev y_Holding_init : MethodName := ⟨"ShipSets$Holding", "<init>", "()V"⟩
abbrev b_Holding_init : ByteArray := prog_5_method_1_code
abbrev Y_Holding_init : gY := ("ShipSets$Holding", "<init>", b_Holding_init, Cond.code y_Holding_init b_Holding_init 1 (Option.none : Option Jvm.ClassFile.FieldType), 1, (Option.none : Option Jvm.ClassFile.FieldType), 1, 60)
abbrev y_ShipSet_init : MethodName := ⟨"ShipSets$ShipSet", "<init>", "()V"⟩
abbrev b_ShipSet_init : ByteArray := prog_7_method_1_code
abbrev Y_ShipSet_init : gY := ("ShipSets$ShipSet", "<init>", b_ShipSet_init, Cond.code y_ShipSet_init b_ShipSet_init 1 (Option.none : Option Jvm.ClassFile.FieldType), 1, (Option.none : Option Jvm.ClassFile.FieldType), 2, 80)
abbrev y_S_set : MethodName := ⟨"ShipSets", "set", "(I)I"⟩
abbrev b_S_set : ByteArray := prog_1_method_4_code
abbrev Y_S_set : gY := ("ShipSets", "set", b_S_set, Cond.code y_S_set b_S_set 4 (Option.some Jvm.ClassFile.FieldType.int), 4, (Option.some Jvm.ClassFile.FieldType.int), 7, 191)
abbrev y_M_set : MethodName := ⟨"ShipSetsModel", "set", "(I)I"⟩
abbrev b_M_set : ByteArray := prog_11_method_10_code
abbrev Y_M_set : gY := ("ShipSetsModel", "set", b_M_set, Cond.code y_M_set b_M_set 3 (Option.some Jvm.ClassFile.FieldType.int), 3, (Option.some Jvm.ClassFile.FieldType.int), 1, 21)
abbrev y_S_setAt : MethodName := ⟨"ShipSets", "setAt", "(I)LShipSets$ShipSet;"⟩
abbrev b_S_setAt : ByteArray := prog_1_method_28_code
abbrev Y_S_setAt : gY := ("ShipSets", "setAt", b_S_setAt, Cond.code y_S_setAt b_S_setAt 2 (Option.some (Jvm.ClassFile.FieldType.object "ShipSets$ShipSet")), 2, (Option.some (Jvm.ClassFile.FieldType.object "ShipSets$ShipSet")), 3, 64)
abbrev y_Holding_takeAllOf : MethodName := ⟨"ShipSets$Holding", "takeAllOf", "(LShipSets$Holding;)V"⟩
abbrev b_Holding_takeAllOf : ByteArray := prog_5_method_5_code
abbrev Y_Holding_takeAllOf : gY := ("ShipSets$Holding", "takeAllOf", b_Holding_takeAllOf, Cond.code y_Holding_takeAllOf b_Holding_takeAllOf 3 (Option.none : Option Jvm.ClassFile.FieldType), 3, (Option.none : Option Jvm.ClassFile.FieldType), 1, 60)
abbrev y_Arrays_fill : MethodName := ⟨"java/util/Arrays", "fill", "([II)V"⟩
abbrev b_Arrays_fill : ByteArray := prog_20_method_103_code
abbrev Y_Arrays_fill : gY := ("java/util/Arrays", "fill", b_Arrays_fill, Cond.code y_Arrays_fill b_Arrays_fill 4 (Option.none : Option Jvm.ClassFile.FieldType), 4, (Option.none : Option Jvm.ClassFile.FieldType), 0, 0)
abbrev y_Current_clear : MethodName := ⟨"ShipSets$Current", "clear", "()V"⟩
abbrev b_Current_clear : ByteArray := prog_4_method_2_code
abbrev Y_Current_clear : gY := ("ShipSets$Current", "clear", b_Current_clear, Cond.code y_Current_clear b_Current_clear 1 (Option.none : Option Jvm.ClassFile.FieldType), 1, (Option.none : Option Jvm.ClassFile.FieldType), 1, 23)
abbrev y_Holding_has : MethodName := ⟨"ShipSets$Holding", "has", "(LShipSets$Telling;)Z"⟩
abbrev b_Holding_has : ByteArray := prog_5_method_2_code
abbrev Y_Holding_has : gY := ("ShipSets$Holding", "has", b_Holding_has, Cond.code y_Holding_has b_Holding_has 2 (Option.some Jvm.ClassFile.FieldType.boolean), 2, (Option.some Jvm.ClassFile.FieldType.boolean), 0, 0)
abbrev y_Current_offer : MethodName := ⟨"ShipSets$Current", "offer", "(LShipSets$Telling;)V"⟩
abbrev b_Current_offer : ByteArray := prog_4_method_3_code
abbrev Y_Current_offer : gY := ("ShipSets$Current", "offer", b_Current_offer, Cond.code y_Current_offer b_Current_offer 2 (Option.none : Option Jvm.ClassFile.FieldType), 2, (Option.none : Option Jvm.ClassFile.FieldType), 0, 0)
abbrev y_S_findCurrent : MethodName := ⟨"ShipSets", "findCurrent", "(LShipSets$Holding;II)V"⟩
abbrev b_S_findCurrent : ByteArray := prog_1_method_29_code
abbrev Y_S_findCurrent : gY := ("ShipSets", "findCurrent", b_S_findCurrent, Cond.code y_S_findCurrent b_S_findCurrent 5 (Option.none : Option Jvm.ClassFile.FieldType), 5, (Option.none : Option Jvm.ClassFile.FieldType), 2, 43)
abbrev y_Current_has : MethodName := ⟨"ShipSets$Current", "has", "(I)Z"⟩
abbrev b_Current_has : ByteArray := prog_4_method_4_code
abbrev Y_Current_has : gY := ("ShipSets$Current", "has", b_Current_has, Cond.code y_Current_has b_Current_has 2 (Option.some Jvm.ClassFile.FieldType.boolean), 2, (Option.some Jvm.ClassFile.FieldType.boolean), 0, 0)
abbrev y_Current_commonValue : MethodName := ⟨"ShipSets$Current", "commonValue", "()J"⟩
abbrev b_Current_commonValue : ByteArray := prog_4_method_7_code
abbrev Y_Current_commonValue : gY := ("ShipSets$Current", "commonValue", b_Current_commonValue, Cond.code y_Current_commonValue b_Current_commonValue 4 (Option.some Jvm.ClassFile.FieldType.long), 4, (Option.some Jvm.ClassFile.FieldType.long), 1, 21)
abbrev y_Holding_hasSettling : MethodName := ⟨"ShipSets$Holding", "hasSettling", "(I)Z"⟩
abbrev b_Holding_hasSettling : ByteArray := prog_5_method_3_code
abbrev Y_Holding_hasSettling : gY := ("ShipSets$Holding", "hasSettling", b_Holding_hasSettling, Cond.code y_Holding_hasSettling b_Holding_hasSettling 2 (Option.some Jvm.ClassFile.FieldType.boolean), 2, (Option.some Jvm.ClassFile.FieldType.boolean), 0, 0)
abbrev y_Settling_isMadeFor : MethodName := ⟨"ShipSets$Settling", "isMadeFor", "(ILShipSets$Current;)Z"⟩
abbrev b_Settling_isMadeFor : ByteArray := prog_6_method_2_code
abbrev Y_Settling_isMadeFor : gY := ("ShipSets$Settling", "isMadeFor", b_Settling_isMadeFor, Cond.code y_Settling_isMadeFor b_Settling_isMadeFor 4 (Option.some Jvm.ClassFile.FieldType.boolean), 4, (Option.some Jvm.ClassFile.FieldType.boolean), 0, 0)
abbrev y_Current_valueBy : MethodName := ⟨"ShipSets$Current", "valueBy", "(I)J"⟩
abbrev b_Current_valueBy : ByteArray := prog_4_method_5_code
abbrev Y_Current_valueBy : gY := ("ShipSets$Current", "valueBy", b_Current_valueBy, Cond.code y_Current_valueBy b_Current_valueBy 2 (Option.some Jvm.ClassFile.FieldType.long), 2, (Option.some Jvm.ClassFile.FieldType.long), 1, 21)
abbrev y_S_settledValue : MethodName := ⟨"ShipSets", "settledValue", "(LShipSets$Holding;I)J"⟩
abbrev b_S_settledValue : ByteArray := prog_1_method_31_code
abbrev Y_S_settledValue : gY := ("ShipSets", "settledValue", b_S_settledValue, Cond.code y_S_settledValue b_S_settledValue 5 (Option.some Jvm.ClassFile.FieldType.long), 5, (Option.some Jvm.ClassFile.FieldType.long), 3, 64)
abbrev y_S_valueOn : MethodName := ⟨"ShipSets", "valueOn", "(LShipSets$Holding;II)J"⟩
abbrev b_S_valueOn : ByteArray := prog_1_method_30_code
abbrev Y_S_valueOn : gY := ("ShipSets", "valueOn", b_S_valueOn, Cond.code y_S_valueOn b_S_valueOn 6 (Option.some Jvm.ClassFile.FieldType.long), 6, (Option.some Jvm.ClassFile.FieldType.long), 4, 88)
abbrev y_Current_count : MethodName := ⟨"ShipSets$Current", "count", "()I"⟩
abbrev b_Current_count : ByteArray := prog_4_method_6_code
abbrev Y_Current_count : gY := ("ShipSets$Current", "count", b_Current_count, Cond.code y_Current_count b_Current_count 3 (Option.some Jvm.ClassFile.FieldType.int), 3, (Option.some Jvm.ClassFile.FieldType.int), 1, 21)
abbrev y_S_isInConflict : MethodName := ⟨"ShipSets", "isInConflict", "(LShipSets$Holding;I)Z"⟩
abbrev b_S_isInConflict : ByteArray := prog_1_method_32_code
abbrev Y_S_isInConflict : gY := ("ShipSets", "isInConflict", b_S_isInConflict, Cond.code y_S_isInConflict b_S_isInConflict 5 (Option.some Jvm.ClassFile.FieldType.boolean), 5, (Option.some Jvm.ClassFile.FieldType.boolean), 5, 113)
abbrev y_S_countConflicts : MethodName := ⟨"ShipSets", "countConflicts", "(LShipSets$Holding;)I"⟩
abbrev b_S_countConflicts : ByteArray := prog_1_method_33_code
abbrev Y_S_countConflicts : gY := ("ShipSets", "countConflicts", b_S_countConflicts, Cond.code y_S_countConflicts b_S_countConflicts 4 (Option.some Jvm.ClassFile.FieldType.int), 4, (Option.some Jvm.ClassFile.FieldType.int), 6, 137)
abbrev y_S_join : MethodName := ⟨"ShipSets", "join", "(II)I"⟩
abbrev b_S_join : ByteArray := prog_1_method_5_code
abbrev Y_S_join : gY := ("ShipSets", "join", b_S_join, Cond.code y_S_join b_S_join 5 (Option.some Jvm.ClassFile.FieldType.int), 5, (Option.some Jvm.ClassFile.FieldType.int), 7, 160)
abbrev y_M_isSet : MethodName := ⟨"ShipSetsModel", "isSet", "(I)Z"⟩
abbrev b_M_isSet : ByteArray := prog_11_method_5_code
abbrev Y_M_isSet : gY := ("ShipSetsModel", "isSet", b_M_isSet, Cond.code y_M_isSet b_M_isSet 2 (Option.some Jvm.ClassFile.FieldType.boolean), 2, (Option.some Jvm.ClassFile.FieldType.boolean), 0, 0)
abbrev y_M_isOf : MethodName := ⟨"ShipSetsModel", "isOf", "(IIIII)Z"⟩
abbrev b_M_isOf : ByteArray := prog_11_method_12_code
abbrev Y_M_isOf : gY := ("ShipSetsModel", "isOf", b_M_isOf, Cond.code y_M_isOf b_M_isOf 6 (Option.some Jvm.ClassFile.FieldType.boolean), 6, (Option.some Jvm.ClassFile.FieldType.boolean), 0, 0)
abbrev y_M_findCurrent : MethodName := ⟨"ShipSetsModel", "findCurrent", "(IIII)I"⟩
abbrev b_M_findCurrent : ByteArray := prog_11_method_11_code
abbrev Y_M_findCurrent : gY := ("ShipSetsModel", "findCurrent", b_M_findCurrent, Cond.code y_M_findCurrent b_M_findCurrent 9 (Option.some Jvm.ClassFile.FieldType.int), 9, (Option.some Jvm.ClassFile.FieldType.int), 1, 25)
abbrev y_M_counts : MethodName := ⟨"ShipSetsModel", "counts", "(IIII)Z"⟩
abbrev b_M_counts : ByteArray := prog_11_method_13_code
abbrev Y_M_counts : gY := ("ShipSetsModel", "counts", b_M_counts, Cond.code y_M_counts b_M_counts 7 (Option.some Jvm.ClassFile.FieldType.boolean), 7, (Option.some Jvm.ClassFile.FieldType.boolean), 0, 0)
abbrev y_M_valueOf : MethodName := ⟨"ShipSetsModel", "valueOf", "(IIII)J"⟩
abbrev b_M_valueOf : ByteArray := prog_11_method_14_code
abbrev Y_M_valueOf : gY := ("ShipSetsModel", "valueOf", b_M_valueOf, Cond.code y_M_valueOf b_M_valueOf 12 (Option.some Jvm.ClassFile.FieldType.long), 12, (Option.some Jvm.ClassFile.FieldType.long), 2, 53)
abbrev y_M_isConflict : MethodName := ⟨"ShipSetsModel", "isConflict", "(III)Z"⟩
abbrev b_M_isConflict : ByteArray := prog_11_method_16_code
abbrev Y_M_isConflict : gY := ("ShipSetsModel", "isConflict", b_M_isConflict, Cond.code y_M_isConflict b_M_isConflict 4 (Option.some Jvm.ClassFile.FieldType.boolean), 4, (Option.some Jvm.ClassFile.FieldType.boolean), 3, 84)
abbrev y_M_join : MethodName := ⟨"ShipSetsModel", "join", "(II)I"⟩
abbrev b_M_join : ByteArray := prog_11_method_17_code
abbrev Y_M_join : gY := ("ShipSetsModel", "join", b_M_join, Cond.code y_M_join b_M_join 5 (Option.some Jvm.ClassFile.FieldType.int), 5, (Option.some Jvm.ClassFile.FieldType.int), 4, 107)
abbrev y_Holding_isSameAs : MethodName := ⟨"ShipSets$Holding", "isSameAs", "(LShipSets$Holding;)Z"⟩
abbrev b_Holding_isSameAs : ByteArray := prog_5_method_7_code
abbrev Y_Holding_isSameAs : gY := ("ShipSets$Holding", "isSameAs", b_Holding_isSameAs, Cond.code y_Holding_isSameAs b_Holding_isSameAs 3 (Option.some Jvm.ClassFile.FieldType.boolean), 3, (Option.some Jvm.ClassFile.FieldType.boolean), 0, 0)
abbrev y_S_equal : MethodName := ⟨"ShipSets", "equal", "(II)Z"⟩
abbrev b_S_equal : ByteArray := prog_1_method_6_code
abbrev Y_S_equal : gY := ("ShipSets", "equal", b_S_equal, Cond.code y_S_equal b_S_equal 5 (Option.some Jvm.ClassFile.FieldType.boolean), 5, (Option.some Jvm.ClassFile.FieldType.boolean), 4, 85)
abbrev y_M_equal : MethodName := ⟨"ShipSetsModel", "equal", "(II)Z"⟩
abbrev b_M_equal : ByteArray := prog_11_method_18_code
abbrev Y_M_equal : gY := ("ShipSetsModel", "equal", b_M_equal, Cond.code y_M_equal b_M_equal 5 (Option.some Jvm.ClassFile.FieldType.boolean), 5, (Option.some Jvm.ClassFile.FieldType.boolean), 1, 21)
abbrev y_S_known : MethodName := ⟨"ShipSets", "known", "(IIII)J"⟩
abbrev b_S_known : ByteArray := prog_1_method_7_code
abbrev Y_S_known : gY := ("ShipSets", "known", b_S_known, Cond.code y_S_known b_S_known 7 (Option.some Jvm.ClassFile.FieldType.long), 7, (Option.some Jvm.ClassFile.FieldType.long), 5, 113)
abbrev y_M_known : MethodName := ⟨"ShipSetsModel", "known", "(IIII)J"⟩
abbrev b_M_known : ByteArray := prog_11_method_15_code
abbrev Y_M_known : gY := ("ShipSetsModel", "known", b_M_known, Cond.code y_M_known b_M_known 5 (Option.some Jvm.ClassFile.FieldType.long), 5, (Option.some Jvm.ClassFile.FieldType.long), 3, 84)
abbrev y_S_cellInConflict : MethodName := ⟨"ShipSets", "cellInConflict", "(LShipSets$Holding;I)I"⟩
abbrev b_S_cellInConflict : ByteArray := prog_1_method_34_code
abbrev Y_S_cellInConflict : gY := ("ShipSets", "cellInConflict", b_S_cellInConflict, Cond.code y_S_cellInConflict b_S_cellInConflict 5 (Option.some Jvm.ClassFile.FieldType.int), 5, (Option.some Jvm.ClassFile.FieldType.int), 6, 137)
abbrev y_S_conflict : MethodName := ⟨"ShipSets", "conflict", "(III)I"⟩
abbrev b_S_conflict : ByteArray := prog_1_method_8_code
abbrev Y_S_conflict : gY := ("ShipSets", "conflict", b_S_conflict, Cond.code y_S_conflict b_S_conflict 6 (Option.some Jvm.ClassFile.FieldType.int), 6, (Option.some Jvm.ClassFile.FieldType.int), 7, 161)
abbrev y_M_conflict : MethodName := ⟨"ShipSetsModel", "conflict", "(III)I"⟩
abbrev b_M_conflict : ByteArray := prog_11_method_19_code
abbrev Y_M_conflict : gY := ("ShipSetsModel", "conflict", b_M_conflict, Cond.code y_M_conflict b_M_conflict 6 (Option.some Jvm.ClassFile.FieldType.int), 6, (Option.some Jvm.ClassFile.FieldType.int), 4, 107)
abbrev y_Holding_takeSettling : MethodName := ⟨"ShipSets$Holding", "takeSettling", "(I)V"⟩
abbrev b_Holding_takeSettling : ByteArray := prog_5_method_4_code
abbrev Y_Holding_takeSettling : gY := ("ShipSets$Holding", "takeSettling", b_Holding_takeSettling, Cond.code y_Holding_takeSettling b_Holding_takeSettling 2 (Option.none : Option Jvm.ClassFile.FieldType), 2, (Option.none : Option Jvm.ClassFile.FieldType), 0, 0)
abbrev y_Arrays_copyOf3 : MethodName := ⟨"java/util/Arrays", "copyOf", "([II)[I"⟩
abbrev b_Arrays_copyOf3 : ByteArray := prog_20_method_123_code
abbrev Y_Arrays_copyOf3 : gY := ("java/util/Arrays", "copyOf", b_Arrays_copyOf3, Cond.code y_Arrays_copyOf3 b_Arrays_copyOf3 3 (Option.some (Jvm.ClassFile.FieldType.array Jvm.ClassFile.FieldType.int)), 3, (Option.some (Jvm.ClassFile.FieldType.array Jvm.ClassFile.FieldType.int)), 1, 60)
abbrev y_Settling_init : MethodName := ⟨"ShipSets$Settling", "<init>", "(IILShipSets$Current;)V"⟩
abbrev b_Settling_init : ByteArray := prog_6_method_1_code
abbrev Y_Settling_init : gY := ("ShipSets$Settling", "<init>", b_Settling_init, Cond.code y_Settling_init b_Settling_init 4 (Option.none : Option Jvm.ClassFile.FieldType), 4, (Option.none : Option Jvm.ClassFile.FieldType), 2, 82)
abbrev y_S_settle : MethodName := ⟨"ShipSets", "settle", "(IIII)I"⟩
abbrev b_S_settle : ByteArray := prog_1_method_9_code
abbrev Y_S_settle : gY := ("ShipSets", "settle", b_S_settle, Cond.code y_S_settle b_S_settle 7 (Option.some Jvm.ClassFile.FieldType.int), 7, (Option.some Jvm.ClassFile.FieldType.int), 7, 191)
abbrev y_M_settle : MethodName := ⟨"ShipSetsModel", "settle", "(IIII)I"⟩
abbrev b_M_settle : ByteArray := prog_11_method_20_code
abbrev Y_M_settle : gY := ("ShipSetsModel", "settle", b_M_settle, Cond.code y_M_settle b_M_settle 8 (Option.some Jvm.ClassFile.FieldType.int), 8, (Option.some Jvm.ClassFile.FieldType.int), 2, 53)
abbrev y_Holding_becomeLike : MethodName := ⟨"ShipSets$Holding", "becomeLike", "(LShipSets$Holding;)V"⟩
abbrev b_Holding_becomeLike : ByteArray := prog_5_method_6_code
abbrev Y_Holding_becomeLike : gY := ("ShipSets$Holding", "becomeLike", b_Holding_becomeLike, Cond.code y_Holding_becomeLike b_Holding_becomeLike 2 (Option.none : Option Jvm.ClassFile.FieldType), 2, (Option.none : Option Jvm.ClassFile.FieldType), 1, 60)
abbrev y_S_batch : MethodName := ⟨"ShipSets", "batch", "(I)Z"⟩
abbrev b_S_batch : ByteArray := prog_1_method_10_code
abbrev Y_S_batch : gY := ("ShipSets", "batch", b_S_batch, Cond.code y_S_batch b_S_batch 3 (Option.some Jvm.ClassFile.FieldType.boolean), 3, (Option.some Jvm.ClassFile.FieldType.boolean), 4, 85)
abbrev y_M_batch : MethodName := ⟨"ShipSetsModel", "batch", "(I)Z"⟩
abbrev b_M_batch : ByteArray := prog_11_method_21_code
abbrev Y_M_batch : gY := ("ShipSetsModel", "batch", b_M_batch, Cond.code y_M_batch b_M_batch 3 (Option.some Jvm.ClassFile.FieldType.boolean), 3, (Option.some Jvm.ClassFile.FieldType.boolean), 1, 21)
abbrev y_S_endBatch : MethodName := ⟨"ShipSets", "endBatch", "(I)Z"⟩
abbrev b_S_endBatch : ByteArray := prog_1_method_11_code
abbrev Y_S_endBatch : gY := ("ShipSets", "endBatch", b_S_endBatch, Cond.code y_S_endBatch b_S_endBatch 3 (Option.some Jvm.ClassFile.FieldType.boolean), 3, (Option.some Jvm.ClassFile.FieldType.boolean), 4, 85)
abbrev y_M_endBatch : MethodName := ⟨"ShipSetsModel", "endBatch", "(I)Z"⟩
abbrev b_M_endBatch : ByteArray := prog_11_method_22_code
abbrev Y_M_endBatch : gY := ("ShipSetsModel", "endBatch", b_M_endBatch, Cond.code y_M_endBatch b_M_endBatch 2 (Option.some Jvm.ClassFile.FieldType.boolean), 2, (Option.some Jvm.ClassFile.FieldType.boolean), 1, 21)
abbrev y_S_isPerson : MethodName := ⟨"ShipSets", "isPerson", "(I)Z"⟩
abbrev b_S_isPerson : ByteArray := prog_1_method_24_code
abbrev Y_S_isPerson : gY := ("ShipSets", "isPerson", b_S_isPerson, Cond.code y_S_isPerson b_S_isPerson 1 (Option.some Jvm.ClassFile.FieldType.boolean), 1, (Option.some Jvm.ClassFile.FieldType.boolean), 0, 0)
abbrev y_S_right : MethodName := ⟨"ShipSets", "right", "(IIZ)Z"⟩
abbrev b_S_right : ByteArray := prog_1_method_12_code
abbrev Y_S_right : gY := ("ShipSets", "right", b_S_right, Cond.code y_S_right b_S_right 4 (Option.some Jvm.ClassFile.FieldType.boolean), 4, (Option.some Jvm.ClassFile.FieldType.boolean), 1, 20)
abbrev y_M_right : MethodName := ⟨"ShipSetsModel", "right", "(IIZ)Z"⟩
abbrev b_M_right : ByteArray := prog_11_method_23_code
abbrev Y_M_right : gY := ("ShipSetsModel", "right", b_M_right, Cond.code y_M_right b_M_right 4 (Option.some Jvm.ClassFile.FieldType.boolean), 4, (Option.some Jvm.ClassFile.FieldType.boolean), 1, 25)
abbrev y_S_seen : MethodName := ⟨"ShipSets", "seen", "(IIII)J"⟩
abbrev b_S_seen : ByteArray := prog_1_method_13_code
abbrev Y_S_seen : gY := ("ShipSets", "seen", b_S_seen, Cond.code y_S_seen b_S_seen 7 (Option.some Jvm.ClassFile.FieldType.long), 7, (Option.some Jvm.ClassFile.FieldType.long), 5, 113)
abbrev y_M_seen : MethodName := ⟨"ShipSetsModel", "seen", "(IIII)J"⟩
abbrev b_M_seen : ByteArray := prog_11_method_24_code
abbrev Y_M_seen : gY := ("ShipSetsModel", "seen", b_M_seen, Cond.code y_M_seen b_M_seen 5 (Option.some Jvm.ClassFile.FieldType.long), 5, (Option.some Jvm.ClassFile.FieldType.long), 3, 84)
abbrev y_Blocks_firstFrom : MethodName := ⟨"ShipSets$Blocks", "firstFrom", "(I)I"⟩
abbrev b_Blocks_firstFrom : ByteArray := prog_2_method_3_code
abbrev Y_Blocks_firstFrom : gY := ("ShipSets$Blocks", "firstFrom", b_Blocks_firstFrom, Cond.code y_Blocks_firstFrom b_Blocks_firstFrom 3 (Option.some Jvm.ClassFile.FieldType.int), 3, (Option.some Jvm.ClassFile.FieldType.int), 1, 60)
abbrev y_Blocks_add : MethodName := ⟨"ShipSets$Blocks", "add", "(II)Z"⟩
abbrev b_Blocks_add : ByteArray := prog_2_method_2_code
abbrev Y_Blocks_add : gY := ("ShipSets$Blocks", "add", b_Blocks_add, Cond.code y_Blocks_add b_Blocks_add 4 (Option.some Jvm.ClassFile.FieldType.boolean), 4, (Option.some Jvm.ClassFile.FieldType.boolean), 2, 82)
abbrev y_S_block : MethodName := ⟨"ShipSets", "block", "(III)Z"⟩
abbrev b_S_block : ByteArray := prog_1_method_14_code
abbrev Y_S_block : gY := ("ShipSets", "block", b_S_block, Cond.code y_S_block b_S_block 5 (Option.some Jvm.ClassFile.FieldType.boolean), 5, (Option.some Jvm.ClassFile.FieldType.boolean), 4, 105)
abbrev y_M_inBlock : MethodName := ⟨"ShipSetsModel", "inBlock", "(II)Z"⟩
abbrev b_M_inBlock : ByteArray := prog_11_method_25_code
abbrev Y_M_inBlock : gY := ("ShipSetsModel", "inBlock", b_M_inBlock, Cond.code y_M_inBlock b_M_inBlock 5 (Option.some Jvm.ClassFile.FieldType.boolean), 5, (Option.some Jvm.ClassFile.FieldType.boolean), 0, 0)
abbrev y_M_block : MethodName := ⟨"ShipSetsModel", "block", "(III)Z"⟩
abbrev b_M_block : ByteArray := prog_11_method_26_code
abbrev Y_M_block : gY := ("ShipSetsModel", "block", b_M_block, Cond.code y_M_block b_M_block 5 (Option.some Jvm.ClassFile.FieldType.boolean), 5, (Option.some Jvm.ClassFile.FieldType.boolean), 1, 25)
abbrev y_Teller_giveNumber : MethodName := ⟨"ShipSets$Teller", "giveNumber", "()I"⟩
abbrev b_Teller_giveNumber : ByteArray := prog_8_method_5_code
abbrev Y_Teller_giveNumber : gY := ("ShipSets$Teller", "giveNumber", b_Teller_giveNumber, Cond.code y_Teller_giveNumber b_Teller_giveNumber 3 (Option.some Jvm.ClassFile.FieldType.int), 3, (Option.some Jvm.ClassFile.FieldType.int), 5, 111)
abbrev y_S_number : MethodName := ⟨"ShipSets", "number", "(I)I"⟩
abbrev b_S_number : ByteArray := prog_1_method_15_code
abbrev Y_S_number : gY := ("ShipSets", "number", b_S_number, Cond.code y_S_number b_S_number 3 (Option.some Jvm.ClassFile.FieldType.int), 3, (Option.some Jvm.ClassFile.FieldType.int), 6, 133)
abbrev y_M_number : MethodName := ⟨"ShipSetsModel", "number", "(I)I"⟩
abbrev b_M_number : ByteArray := prog_11_method_27_code
abbrev Y_M_number : gY := ("ShipSetsModel", "number", b_M_number, Cond.code y_M_number b_M_number 3 (Option.some Jvm.ClassFile.FieldType.int), 3, (Option.some Jvm.ClassFile.FieldType.int), 1, 24)
abbrev y_AL_isEmpty : MethodName := ⟨"java/util/ArrayList", "isEmpty", "()Z"⟩
abbrev b_AL_isEmpty : ByteArray := prog_19_method_9_code
abbrev Y_AL_isEmpty : gY := ("java/util/ArrayList", "isEmpty", b_AL_isEmpty, Cond.code y_AL_isEmpty b_AL_isEmpty 1 (Option.some Jvm.ClassFile.FieldType.boolean), 1, (Option.some Jvm.ClassFile.FieldType.boolean), 0, 0)
abbrev y_Teller_lastLostFrom : MethodName := ⟨"ShipSets$Teller", "lastLostFrom", "(I)I"⟩
abbrev b_Teller_lastLostFrom : ByteArray := prog_8_method_7_code
abbrev Y_Teller_lastLostFrom : gY := ("ShipSets$Teller", "lastLostFrom", b_Teller_lastLostFrom, Cond.code y_Teller_lastLostFrom b_Teller_lastLostFrom 4 (Option.some Jvm.ClassFile.FieldType.int), 4, (Option.some Jvm.ClassFile.FieldType.int), 4, 88)
abbrev y_Blocks_lastAround : MethodName := ⟨"ShipSets$Blocks", "lastAround", "(I)I"⟩
abbrev b_Blocks_lastAround : ByteArray := prog_2_method_4_code
abbrev Y_Blocks_lastAround : gY := ("ShipSets$Blocks", "lastAround", b_Blocks_lastAround, Cond.code y_Blocks_lastAround b_Blocks_lastAround 3 (Option.some Jvm.ClassFile.FieldType.int), 3, (Option.some Jvm.ClassFile.FieldType.int), 0, 0)
abbrev y_Teller_endOfLostSpan : MethodName := ⟨"ShipSets$Teller", "endOfLostSpan", "(II)I"⟩
abbrev b_Teller_endOfLostSpan : ByteArray := prog_8_method_6_code
abbrev Y_Teller_endOfLostSpan : gY := ("ShipSets$Teller", "endOfLostSpan", b_Teller_endOfLostSpan, Cond.code y_Teller_endOfLostSpan b_Teller_endOfLostSpan 7 (Option.some Jvm.ClassFile.FieldType.int), 7, (Option.some Jvm.ClassFile.FieldType.int), 5, 111)
abbrev y_S_lost : MethodName := ⟨"ShipSets", "lost", "(III)I"⟩
abbrev b_S_lost : ByteArray := prog_1_method_16_code
abbrev Y_S_lost : gY := ("ShipSets", "lost", b_S_lost, Cond.code y_S_lost b_S_lost 5 (Option.some Jvm.ClassFile.FieldType.int), 5, (Option.some Jvm.ClassFile.FieldType.int), 6, 137)
abbrev y_M_lost : MethodName := ⟨"ShipSetsModel", "lost", "(III)I"⟩
abbrev b_M_lost : ByteArray := prog_11_method_28_code
abbrev Y_M_lost : gY := ("ShipSetsModel", "lost", b_M_lost, Cond.code y_M_lost b_M_lost 9 (Option.some Jvm.ClassFile.FieldType.int), 9, (Option.some Jvm.ClassFile.FieldType.int), 1, 24)
abbrev y_S_close : MethodName := ⟨"ShipSets", "close", "(I)Z"⟩
abbrev b_S_close : ByteArray := prog_1_method_17_code
abbrev Y_S_close : gY := ("ShipSets", "close", b_S_close, Cond.code y_S_close b_S_close 3 (Option.some Jvm.ClassFile.FieldType.boolean), 3, (Option.some Jvm.ClassFile.FieldType.boolean), 4, 85)
abbrev y_M_close : MethodName := ⟨"ShipSetsModel", "close", "(I)Z"⟩
abbrev b_M_close : ByteArray := prog_11_method_9_code
abbrev Y_M_close : gY := ("ShipSetsModel", "close", b_M_close, Cond.code y_M_close b_M_close 2 (Option.some Jvm.ClassFile.FieldType.boolean), 2, (Option.some Jvm.ClassFile.FieldType.boolean), 1, 21)
abbrev y_S_isSecond : MethodName := ⟨"ShipSets", "isSecond", "(J)Z"⟩
abbrev b_S_isSecond : ByteArray := prog_1_method_25_code
abbrev Y_S_isSecond : gY := ("ShipSets", "isSecond", b_S_isSecond, Cond.code y_S_isSecond b_S_isSecond 2 (Option.some Jvm.ClassFile.FieldType.boolean), 2, (Option.some Jvm.ClassFile.FieldType.boolean), 0, 0)
abbrev y_Clock_add : MethodName := ⟨"ShipSets$Clock", "add", "(JJ)Z"⟩
abbrev b_Clock_add : ByteArray := prog_3_method_2_code
abbrev Y_Clock_add : gY := ("ShipSets$Clock", "add", b_Clock_add, Cond.code y_Clock_add b_Clock_add 5 (Option.some Jvm.ClassFile.FieldType.boolean), 5, (Option.some Jvm.ClassFile.FieldType.boolean), 0, 0)
abbrev y_S_mark : MethodName := ⟨"ShipSets", "mark", "(IJJ)Z"⟩
abbrev b_S_mark : ByteArray := prog_1_method_18_code
abbrev Y_S_mark : gY := ("ShipSets", "mark", b_S_mark, Cond.code y_S_mark b_S_mark 7 (Option.some Jvm.ClassFile.FieldType.boolean), 7, (Option.some Jvm.ClassFile.FieldType.boolean), 4, 85)
abbrev y_M_mark : MethodName := ⟨"ShipSetsModel", "mark", "(IJJ)Z"⟩
abbrev b_M_mark : ByteArray := prog_11_method_29_code
abbrev Y_M_mark : gY := ("ShipSetsModel", "mark", b_M_mark, Cond.code y_M_mark b_M_mark 8 (Option.some Jvm.ClassFile.FieldType.boolean), 8, (Option.some Jvm.ClassFile.FieldType.boolean), 1, 25)
abbrev y_Clock_lineFor : MethodName := ⟨"ShipSets$Clock", "lineFor", "(J)I"⟩
abbrev b_Clock_lineFor : ByteArray := prog_3_method_4_code
abbrev Y_Clock_lineFor : gY := ("ShipSets$Clock", "lineFor", b_Clock_lineFor, Cond.code y_Clock_lineFor b_Clock_lineFor 4 (Option.some Jvm.ClassFile.FieldType.int), 4, (Option.some Jvm.ClassFile.FieldType.int), 0, 0)
abbrev y_Clock_greatestDivisor : MethodName := ⟨"ShipSets$Clock", "greatestDivisor", "(JJ)J"⟩
abbrev b_Clock_greatestDivisor : ByteArray := prog_3_method_5_code
abbrev Y_Clock_greatestDivisor : gY := ("ShipSets$Clock", "greatestDivisor", b_Clock_greatestDivisor, Cond.code y_Clock_greatestDivisor b_Clock_greatestDivisor 11 (Option.some Jvm.ClassFile.FieldType.long), 11, (Option.some Jvm.ClassFile.FieldType.long), 1, 60)
abbrev y_Clock_trueSecond : MethodName := ⟨"ShipSets$Clock", "trueSecond", "(JI)J"⟩
abbrev b_Clock_trueSecond : ByteArray := prog_3_method_3_code
abbrev Y_Clock_trueSecond : gY := ("ShipSets$Clock", "trueSecond", b_Clock_trueSecond, Cond.code y_Clock_trueSecond b_Clock_trueSecond 11 (Option.some Jvm.ClassFile.FieldType.long), 11, (Option.some Jvm.ClassFile.FieldType.long), 2, 90)
abbrev y_S_corrected : MethodName := ⟨"ShipSets", "corrected", "(IJI)J"⟩
abbrev b_S_corrected : ByteArray := prog_1_method_19_code
abbrev Y_S_corrected : gY := ("ShipSets", "corrected", b_S_corrected, Cond.code y_S_corrected b_S_corrected 6 (Option.some Jvm.ClassFile.FieldType.long), 6, (Option.some Jvm.ClassFile.FieldType.long), 4, 120)
abbrev y_M_corrected : MethodName := ⟨"ShipSetsModel", "corrected", "(IJI)J"⟩
abbrev b_M_corrected : ByteArray := prog_11_method_30_code
abbrev Y_M_corrected : gY := ("ShipSetsModel", "corrected", b_M_corrected, Cond.code y_M_corrected b_M_corrected 16 (Option.some Jvm.ClassFile.FieldType.long), 16, (Option.some Jvm.ClassFile.FieldType.long), 1, 25)
abbrev y_Law_law : MethodName := ⟨"ShipSetsLaw", "law", "([I)Z"⟩
abbrev b_Law_law : ByteArray := code
abbrev Y_Law_law : gY := ("ShipSetsLaw", "law", b_Law_law, Cond.code y_Law_law b_Law_law 4 ret, 4, ret, 10, 388)
theorem cls_S : gCls 0 R_S T_S 7 := ⟨rfl, by
    intro w hw
    obtain ⟨k, hk, rfl⟩ := List.mem_map.mp hw
    have hk := List.mem_range.mp hk
    match k, hk with
    | 0, _ => exact (gT_in0 69 rfl)
    | 1, _ => exact (gT_in0 70 rfl)
    | 2, _ => exact (gT_in0 71 rfl)
    | 3, _ => exact (gT_in0 72 rfl)
    | 4, _ => exact (gT_in0 73 rfl)
    | 5, _ => exact (gT_in0 74 rfl)
    | 6, _ => exact (gT_in0 75 rfl)
    | k + 7, hk => exact absurd hk (by omega), ⟨ty_S, by decide +kernel⟩, by decide +kernel⟩
theorem cls_Teller : gCls 1 R_Teller T_Teller 4 := ⟨rfl, by
    intro w hw
    obtain ⟨k, hk, rfl⟩ := List.mem_map.mp hw
    have hk := List.mem_range.mp hk
    match k, hk with
    | 0, _ => exact (gT_in0 119 rfl)
    | 1, _ => exact (gT_in0 120 rfl)
    | 2, _ => exact (gT_in0 121 rfl)
    | 3, _ => exact (gT_in0 122 rfl)
    | k + 4, hk => exact absurd hk (by omega), ⟨ty_Teller, by decide +kernel⟩, by decide +kernel⟩
theorem cls_Blocks : gCls 2 R_Blocks T_Blocks 4 := ⟨rfl, by
    intro w hw
    obtain ⟨k, hk, rfl⟩ := List.mem_map.mp hw
    have hk := List.mem_range.mp hk
    match k, hk with
    | 0, _ => exact (gT_in0 100 rfl)
    | 1, _ => exact (gT_in0 101 rfl)
    | 2, _ => exact (gT_in0 102 rfl)
    | 3, _ => exact (gT_in0 103 rfl)
    | k + 4, hk => exact absurd hk (by omega), ⟨ty_Blocks, by decide +kernel⟩, by decide +kernel⟩
theorem cls_Clock : gCls 3 R_Clock T_Clock 3 := ⟨rfl, by
    intro w hw
    obtain ⟨k, hk, rfl⟩ := List.mem_map.mp hw
    have hk := List.mem_range.mp hk
    match k, hk with
    | 0, _ => exact (gT_in0 112 rfl)
    | 1, _ => exact (gT_in0 113 rfl)
    | 2, _ => exact (gT_in0 114 rfl)
    | k + 3, hk => exact absurd hk (by omega), ⟨ty_Clock, by decide +kernel⟩, by decide +kernel⟩
theorem cls_ShipSet : gCls 4 R_ShipSet T_ShipSet 3 := ⟨rfl, by
    intro w hw
    obtain ⟨k, hk, rfl⟩ := List.mem_map.mp hw
    have hk := List.mem_range.mp hk
    match k, hk with
    | 0, _ => exact (gT_in1 132 rfl)
    | 1, _ => exact (gT_in1 133 rfl)
    | 2, _ => exact (gT_in1 134 rfl)
    | k + 3, hk => exact absurd hk (by omega), ⟨ty_ShipSet, by decide +kernel⟩, by decide +kernel⟩
theorem cls_Holding : gCls 5 R_Holding T_Holding 2 := ⟨rfl, by
    intro w hw
    obtain ⟨k, hk, rfl⟩ := List.mem_map.mp hw
    have hk := List.mem_range.mp hk
    match k, hk with
    | 0, _ => exact (gT_in1 127 rfl)
    | 1, _ => exact (gT_in1 128 rfl)
    | k + 2, hk => exact absurd hk (by omega), ⟨ty_Holding, by decide +kernel⟩, by decide +kernel⟩
theorem cls_Settling : gCls 6 R_Settling T_Settling 3 := ⟨rfl, by
    intro w hw
    obtain ⟨k, hk, rfl⟩ := List.mem_map.mp hw
    have hk := List.mem_range.mp hk
    match k, hk with
    | 0, _ => exact (gT_in2 99 rfl)
    | 1, _ => exact (gT_in2 100 rfl)
    | 2, _ => exact (gT_in2 101 rfl)
    | k + 3, hk => exact absurd hk (by omega), ⟨ty_Settling, by decide +kernel⟩, by decide +kernel⟩
theorem cls_Telling : gCls 7 R_Telling T_Telling 7 := ⟨rfl, by
    intro w hw
    obtain ⟨k, hk, rfl⟩ := List.mem_map.mp hw
    have hk := List.mem_range.mp hk
    match k, hk with
    | 0, _ => exact (gT_in1 92 rfl)
    | 1, _ => exact (gT_in1 93 rfl)
    | 2, _ => exact (gT_in1 94 rfl)
    | 3, _ => exact (gT_in1 95 rfl)
    | 4, _ => exact (gT_in1 96 rfl)
    | 5, _ => exact (gT_in1 97 rfl)
    | 6, _ => exact (gT_in1 98 rfl)
    | k + 7, hk => exact absurd hk (by omega), ⟨ty_Telling, by decide +kernel⟩, by decide +kernel⟩
theorem cls_Current : gCls 8 R_Current T_Current 2 := ⟨rfl, by
    intro w hw
    obtain ⟨k, hk, rfl⟩ := List.mem_map.mp hw
    have hk := List.mem_range.mp hk
    match k, hk with
    | 0, _ => exact (gT_in0 57 rfl)
    | 1, _ => exact (gT_in0 58 rfl)
    | k + 2, hk => exact absurd hk (by omega), ⟨ty_Current, by decide +kernel⟩, by decide +kernel⟩
theorem cls_AL : gCls 9 R_AL T_AL 3 := ⟨rfl, by
    intro w hw
    obtain ⟨k, hk, rfl⟩ := List.mem_map.mp hw
    have hk := List.mem_range.mp hk
    match k, hk with
    | 0, _ => exact (gT_in0 46 rfl)
    | 1, _ => exact (gT_in0 47 rfl)
    | 2, _ => exact (gT_in0 48 rfl)
    | k + 3, hk => exact absurd hk (by omega), ⟨ty_AL, by decide +kernel⟩, by decide +kernel⟩
theorem cls_M : gCls 10 R_M T_M 27 := ⟨rfl, by
    intro w hw
    obtain ⟨k, hk, rfl⟩ := List.mem_map.mp hw
    have hk := List.mem_range.mp hk
    match k, hk with
    | 0, _ => exact (gT_in3 90 rfl)
    | 1, _ => exact (gT_in3 91 rfl)
    | 2, _ => exact (gT_in3 92 rfl)
    | 3, _ => exact (gT_in3 93 rfl)
    | 4, _ => exact (gT_in3 94 rfl)
    | 5, _ => exact (gT_in3 95 rfl)
    | 6, _ => exact (gT_in3 96 rfl)
    | 7, _ => exact (gT_in3 97 rfl)
    | 8, _ => exact (gT_in3 98 rfl)
    | 9, _ => exact (gT_in3 99 rfl)
    | 10, _ => exact (gT_in3 100 rfl)
    | 11, _ => exact (gT_in3 101 rfl)
    | 12, _ => exact (gT_in3 102 rfl)
    | 13, _ => exact (gT_in3 103 rfl)
    | 14, _ => exact (gT_in3 104 rfl)
    | 15, _ => exact (gT_in3 105 rfl)
    | 16, _ => exact (gT_in3 106 rfl)
    | 17, _ => exact (gT_in3 107 rfl)
    | 18, _ => exact (gT_in3 108 rfl)
    | 19, _ => exact (gT_in3 109 rfl)
    | 20, _ => exact (gT_in3 110 rfl)
    | 21, _ => exact (gT_in3 111 rfl)
    | 22, _ => exact (gT_in3 112 rfl)
    | 23, _ => exact (gT_in3 113 rfl)
    | 24, _ => exact (gT_in3 114 rfl)
    | 25, _ => exact (gT_in3 115 rfl)
    | 26, _ => exact (gT_in3 116 rfl)
    | k + 27, hk => exact absurd hk (by omega), ⟨ty_M, by decide +kernel⟩, by decide +kernel⟩
theorem fl_S_14 : gGet "ShipSets" 14 0 0 (.object "java/util/ArrayList") := ⟨R_S, T_S, 7, "ShipSets", cls_S, by decide, by decide +kernel, Or.inl rfl, Or.inl (gT_in0 62 rfl)⟩
theorem fl_S_18 : gGet "ShipSets" 18 0 1 (.object "java/util/ArrayList") := ⟨R_S, T_S, 7, "ShipSets", cls_S, by decide, by decide +kernel, Or.inl rfl, Or.inl (gT_in0 63 rfl)⟩
theorem fl_S_21 : gGet "ShipSets" 21 0 2 (.object "java/util/ArrayList") := ⟨R_S, T_S, 7, "ShipSets", cls_S, by decide, by decide +kernel, Or.inl rfl, Or.inl (gT_in0 64 rfl)⟩
theorem fl_S_26 : gGet "ShipSets" 26 0 3 (.array (.object "ShipSets$Telling")) := ⟨R_S, T_S, 7, "ShipSets", cls_S, by decide, by decide +kernel, Or.inl rfl, Or.inl (gT_in0 65 rfl)⟩
theorem fl_S_30 : gGet "ShipSets" 30 0 4 (.array .boolean) := ⟨R_S, T_S, 7, "ShipSets", cls_S, by decide, by decide +kernel, Or.inl rfl, Or.inl (gT_in0 66 rfl)⟩
theorem fl_S_37 : gGet "ShipSets" 37 0 5 (.object "ShipSets$Current") := ⟨R_S, T_S, 7, "ShipSets", cls_S, by decide, by decide +kernel, Or.inl rfl, Or.inl (gT_in0 67 rfl)⟩
theorem fl_S_41 : gGet "ShipSets" 41 0 6 (.int) := ⟨R_S, T_S, 7, "ShipSets", cls_S, by decide, by decide +kernel, Or.inl rfl, Or.inl (gT_in0 68 rfl)⟩
theorem fl_S_83 : gGet "ShipSets" 83 1 3 (.boolean) := ⟨R_Teller, T_Teller, 4, "ShipSets$Teller", cls_Teller, by decide, by decide +kernel, Or.inl rfl, Or.inr ⟨"ShipSets", by decide +kernel⟩⟩
theorem fl_S_87 : gGet "ShipSets" 87 1 0 (.object "java/util/ArrayList") := ⟨R_Teller, T_Teller, 4, "ShipSets$Teller", cls_Teller, by decide, by decide +kernel, Or.inl rfl, Or.inr ⟨"ShipSets", by decide +kernel⟩⟩
theorem fl_S_100 : gGet "ShipSets" 100 4 0 (.object "ShipSets$Holding") := ⟨R_ShipSet, T_ShipSet, 3, "ShipSets$ShipSet", cls_ShipSet, by decide, by decide +kernel, Or.inl rfl, Or.inr ⟨"ShipSets", by decide +kernel⟩⟩
theorem fl_S_104 : gGet "ShipSets" 104 5 0 (.array .int) := ⟨R_Holding, T_Holding, 2, "ShipSets$Holding", cls_Holding, by decide, by decide +kernel, Or.inl rfl, Or.inr ⟨"ShipSets", by decide +kernel⟩⟩
theorem fl_S_156 : gGet "ShipSets" 156 4 2 (.boolean) := ⟨R_ShipSet, T_ShipSet, 3, "ShipSets$ShipSet", cls_ShipSet, by decide, by decide +kernel, Or.inl rfl, Or.inr ⟨"ShipSets", by decide +kernel⟩⟩
theorem fl_S_159 : gGet "ShipSets" 159 4 1 (.object "ShipSets$Holding") := ⟨R_ShipSet, T_ShipSet, 3, "ShipSets$ShipSet", cls_ShipSet, by decide, by decide +kernel, Or.inl rfl, Or.inr ⟨"ShipSets", by decide +kernel⟩⟩
theorem fl_S_171 : gGet "ShipSets" 171 1 1 (.object "ShipSets$Blocks") := ⟨R_Teller, T_Teller, 4, "ShipSets$Teller", cls_Teller, by decide, by decide +kernel, Or.inl rfl, Or.inr ⟨"ShipSets", by decide +kernel⟩⟩
theorem fl_S_189 : gGet "ShipSets" 189 1 2 (.object "ShipSets$Clock") := ⟨R_Teller, T_Teller, 4, "ShipSets$Teller", cls_Teller, by decide, by decide +kernel, Or.inl rfl, Or.inr ⟨"ShipSets", by decide +kernel⟩⟩
theorem fl_S_215 : gGet "ShipSets" 215 7 5 (.int) := ⟨R_Telling, T_Telling, 7, "ShipSets$Telling", cls_Telling, by decide, by decide +kernel, Or.inl rfl, Or.inr ⟨"ShipSets", by decide +kernel⟩⟩
theorem fl_S_224 : gGet "ShipSets" 224 7 6 (.object "ShipSets$Telling") := ⟨R_Telling, T_Telling, 7, "ShipSets$Telling", cls_Telling, by decide, by decide +kernel, Or.inl rfl, Or.inr ⟨"ShipSets", by decide +kernel⟩⟩
theorem fl_S_243 : gGet "ShipSets" 243 6 1 (.int) := ⟨R_Settling, T_Settling, 3, "ShipSets$Settling", cls_Settling, by decide, by decide +kernel, Or.inl rfl, Or.inr ⟨"ShipSets", by decide +kernel⟩⟩
theorem fl_Blocks_9 : gGet "ShipSets$Blocks" 9 2 0 (.array .int) := ⟨R_Blocks, T_Blocks, 4, "ShipSets$Blocks", cls_Blocks, by decide, by decide +kernel, Or.inl rfl, Or.inl (gT_in0 96 rfl)⟩
theorem fl_Blocks_15 : gGet "ShipSets$Blocks" 15 2 1 (.array .int) := ⟨R_Blocks, T_Blocks, 4, "ShipSets$Blocks", cls_Blocks, by decide, by decide +kernel, Or.inl rfl, Or.inl (gT_in0 97 rfl)⟩
theorem fl_Blocks_18 : gGet "ShipSets$Blocks" 18 2 2 (.array .int) := ⟨R_Blocks, T_Blocks, 4, "ShipSets$Blocks", cls_Blocks, by decide, by decide +kernel, Or.inl rfl, Or.inl (gT_in0 98 rfl)⟩
theorem fl_Blocks_21 : gGet "ShipSets$Blocks" 21 2 3 (.int) := ⟨R_Blocks, T_Blocks, 4, "ShipSets$Blocks", cls_Blocks, by decide, by decide +kernel, Or.inl rfl, Or.inl (gT_in0 99 rfl)⟩
theorem fl_Clock_9 : gGet "ShipSets$Clock" 9 3 0 (.array .long) := ⟨R_Clock, T_Clock, 3, "ShipSets$Clock", cls_Clock, by decide, by decide +kernel, Or.inl rfl, Or.inl (gT_in0 109 rfl)⟩
theorem fl_Clock_15 : gGet "ShipSets$Clock" 15 3 1 (.array .long) := ⟨R_Clock, T_Clock, 3, "ShipSets$Clock", cls_Clock, by decide, by decide +kernel, Or.inl rfl, Or.inl (gT_in0 110 rfl)⟩
theorem fl_Clock_18 : gGet "ShipSets$Clock" 18 3 2 (.int) := ⟨R_Clock, T_Clock, 3, "ShipSets$Clock", cls_Clock, by decide, by decide +kernel, Or.inl rfl, Or.inl (gT_in0 111 rfl)⟩
theorem fl_Current_9 : gGet "ShipSets$Current" 9 8 0 (.array .int) := ⟨R_Current, T_Current, 2, "ShipSets$Current", cls_Current, by decide, by decide +kernel, Or.inl rfl, Or.inl (gT_in0 55 rfl)⟩
theorem fl_Current_15 : gGet "ShipSets$Current" 15 8 1 (.array .long) := ⟨R_Current, T_Current, 2, "ShipSets$Current", cls_Current, by decide, by decide +kernel, Or.inl rfl, Or.inl (gT_in0 56 rfl)⟩
theorem fl_Current_25 : gGet "ShipSets$Current" 25 7 2 (.int) := ⟨R_Telling, T_Telling, 7, "ShipSets$Telling", cls_Telling, by decide, by decide +kernel, Or.inl rfl, Or.inr ⟨"ShipSets", by decide +kernel⟩⟩
theorem fl_Current_31 : gGet "ShipSets$Current" 31 7 0 (.int) := ⟨R_Telling, T_Telling, 7, "ShipSets$Telling", cls_Telling, by decide, by decide +kernel, Or.inl rfl, Or.inr ⟨"ShipSets", by decide +kernel⟩⟩
theorem fl_Current_34 : gGet "ShipSets$Current" 34 7 4 (.long) := ⟨R_Telling, T_Telling, 7, "ShipSets$Telling", cls_Telling, by decide, by decide +kernel, Or.inl rfl, Or.inr ⟨"ShipSets", by decide +kernel⟩⟩
theorem fl_Holding_9 : gGet "ShipSets$Holding" 9 5 0 (.array .int) := ⟨R_Holding, T_Holding, 2, "ShipSets$Holding", cls_Holding, by decide, by decide +kernel, Or.inl rfl, Or.inl (gT_in1 125 rfl)⟩
theorem fl_Holding_15 : gGet "ShipSets$Holding" 15 5 1 (.long) := ⟨R_Holding, T_Holding, 2, "ShipSets$Holding", cls_Holding, by decide, by decide +kernel, Or.inl rfl, Or.inl (gT_in1 126 rfl)⟩
theorem fl_Holding_19 : gGet "ShipSets$Holding" 19 7 1 (.int) := ⟨R_Telling, T_Telling, 7, "ShipSets$Telling", cls_Telling, by decide, by decide +kernel, Or.inl rfl, Or.inr ⟨"ShipSets", by decide +kernel⟩⟩
theorem fl_Holding_25 : gGet "ShipSets$Holding" 25 7 0 (.int) := ⟨R_Telling, T_Telling, 7, "ShipSets$Telling", cls_Telling, by decide, by decide +kernel, Or.inl rfl, Or.inr ⟨"ShipSets", by decide +kernel⟩⟩
theorem fl_Settling_9 : gGet "ShipSets$Settling" 9 6 0 (.int) := ⟨R_Settling, T_Settling, 3, "ShipSets$Settling", cls_Settling, by decide, by decide +kernel, Or.inl rfl, Or.inl (gT_in2 96 rfl)⟩
theorem fl_Settling_18 : gGet "ShipSets$Settling" 18 8 0 (.array .int) := ⟨R_Current, T_Current, 2, "ShipSets$Current", cls_Current, by decide, by decide +kernel, Or.inl rfl, Or.inr ⟨"ShipSets", by decide +kernel⟩⟩
theorem fl_Settling_30 : gGet "ShipSets$Settling" 30 6 2 (.array .int) := ⟨R_Settling, T_Settling, 3, "ShipSets$Settling", cls_Settling, by decide, by decide +kernel, Or.inl rfl, Or.inl (gT_in2 98 rfl)⟩
theorem fl_Teller_12 : gGet "ShipSets$Teller" 12 1 0 (.object "java/util/ArrayList") := ⟨R_Teller, T_Teller, 4, "ShipSets$Teller", cls_Teller, by decide, by decide +kernel, Or.inl rfl, Or.inl (gT_in0 115 rfl)⟩
theorem fl_Teller_21 : gGet "ShipSets$Teller" 21 1 1 (.object "ShipSets$Blocks") := ⟨R_Teller, T_Teller, 4, "ShipSets$Teller", cls_Teller, by decide, by decide +kernel, Or.inl rfl, Or.inl (gT_in0 116 rfl)⟩
theorem fl_Teller_46 : gGet "ShipSets$Teller" 46 7 2 (.int) := ⟨R_Telling, T_Telling, 7, "ShipSets$Telling", cls_Telling, by decide, by decide +kernel, Or.inl rfl, Or.inr ⟨"ShipSets", by decide +kernel⟩⟩
theorem fl_Teller_58 : gGet "ShipSets$Teller" 58 2 3 (.int) := ⟨R_Blocks, T_Blocks, 4, "ShipSets$Blocks", cls_Blocks, by decide, by decide +kernel, Or.inl rfl, Or.inr ⟨"ShipSets", by decide +kernel⟩⟩
theorem fl_Teller_61 : gGet "ShipSets$Teller" 61 2 2 (.array .int) := ⟨R_Blocks, T_Blocks, 4, "ShipSets$Blocks", cls_Blocks, by decide, by decide +kernel, Or.inl rfl, Or.inr ⟨"ShipSets", by decide +kernel⟩⟩
theorem fl_Teller_65 : gGet "ShipSets$Teller" 65 2 1 (.array .int) := ⟨R_Blocks, T_Blocks, 4, "ShipSets$Blocks", cls_Blocks, by decide, by decide +kernel, Or.inl rfl, Or.inr ⟨"ShipSets", by decide +kernel⟩⟩
theorem fl_Telling_19 : gGet "ShipSets$Telling" 19 7 3 (.int) := ⟨R_Telling, T_Telling, 7, "ShipSets$Telling", cls_Telling, by decide, by decide +kernel, Or.inl rfl, Or.inl (gT_in1 88 rfl)⟩
theorem fl_Telling_22 : gGet "ShipSets$Telling" 22 7 4 (.long) := ⟨R_Telling, T_Telling, 7, "ShipSets$Telling", cls_Telling, by decide, by decide +kernel, Or.inl rfl, Or.inl (gT_in1 89 rfl)⟩
theorem fl_Telling_26 : gGet "ShipSets$Telling" 26 7 5 (.int) := ⟨R_Telling, T_Telling, 7, "ShipSets$Telling", cls_Telling, by decide, by decide +kernel, Or.inl rfl, Or.inl (gT_in1 90 rfl)⟩
theorem fl_M_7 : gGet "ShipSetsModel" 7 10 1 (.array .boolean) := ⟨R_M, T_M, 27, "ShipSetsModel", cls_M, by decide, by decide +kernel, Or.inl rfl, Or.inl (gT_in3 64 rfl)⟩
theorem fl_M_13 : gGet "ShipSetsModel" 13 10 3 (.array .int) := ⟨R_M, T_M, 27, "ShipSetsModel", cls_M, by decide, by decide +kernel, Or.inl rfl, Or.inl (gT_in3 66 rfl)⟩
theorem fl_M_17 : gGet "ShipSetsModel" 17 10 4 (.array .int) := ⟨R_M, T_M, 27, "ShipSetsModel", cls_M, by decide, by decide +kernel, Or.inl rfl, Or.inl (gT_in3 67 rfl)⟩
theorem fl_M_20 : gGet "ShipSetsModel" 20 10 5 (.array .int) := ⟨R_M, T_M, 27, "ShipSetsModel", cls_M, by decide, by decide +kernel, Or.inl rfl, Or.inl (gT_in3 68 rfl)⟩
theorem fl_M_23 : gGet "ShipSetsModel" 23 10 6 (.array .int) := ⟨R_M, T_M, 27, "ShipSetsModel", cls_M, by decide, by decide +kernel, Or.inl rfl, Or.inl (gT_in3 69 rfl)⟩
theorem fl_M_26 : gGet "ShipSetsModel" 26 10 7 (.array .long) := ⟨R_M, T_M, 27, "ShipSetsModel", cls_M, by decide, by decide +kernel, Or.inl rfl, Or.inl (gT_in3 70 rfl)⟩
theorem fl_M_30 : gGet "ShipSetsModel" 30 10 8 (.array .int) := ⟨R_M, T_M, 27, "ShipSetsModel", cls_M, by decide, by decide +kernel, Or.inl rfl, Or.inl (gT_in3 71 rfl)⟩
theorem fl_M_33 : gGet "ShipSetsModel" 33 10 10 (.array .boolean) := ⟨R_M, T_M, 27, "ShipSetsModel", cls_M, by decide, by decide +kernel, Or.inl rfl, Or.inl (gT_in3 73 rfl)⟩
theorem fl_M_36 : gGet "ShipSetsModel" 36 10 11 (.array .boolean) := ⟨R_M, T_M, 27, "ShipSetsModel", cls_M, by decide, by decide +kernel, Or.inl rfl, Or.inl (gT_in3 74 rfl)⟩
theorem fl_M_39 : gGet "ShipSetsModel" 39 10 12 (.array .boolean) := ⟨R_M, T_M, 27, "ShipSetsModel", cls_M, by decide, by decide +kernel, Or.inl rfl, Or.inl (gT_in3 75 rfl)⟩
theorem fl_M_42 : gGet "ShipSetsModel" 42 10 14 (.array .int) := ⟨R_M, T_M, 27, "ShipSetsModel", cls_M, by decide, by decide +kernel, Or.inl rfl, Or.inl (gT_in3 77 rfl)⟩
theorem fl_M_45 : gGet "ShipSetsModel" 45 10 15 (.array .int) := ⟨R_M, T_M, 27, "ShipSetsModel", cls_M, by decide, by decide +kernel, Or.inl rfl, Or.inl (gT_in3 78 rfl)⟩
theorem fl_M_48 : gGet "ShipSetsModel" 48 10 16 (.array .int) := ⟨R_M, T_M, 27, "ShipSetsModel", cls_M, by decide, by decide +kernel, Or.inl rfl, Or.inl (gT_in3 79 rfl)⟩
theorem fl_M_51 : gGet "ShipSetsModel" 51 10 17 (.array .boolean) := ⟨R_M, T_M, 27, "ShipSetsModel", cls_M, by decide, by decide +kernel, Or.inl rfl, Or.inl (gT_in3 80 rfl)⟩
theorem fl_M_54 : gGet "ShipSetsModel" 54 10 18 (.array .boolean) := ⟨R_M, T_M, 27, "ShipSetsModel", cls_M, by decide, by decide +kernel, Or.inl rfl, Or.inl (gT_in3 81 rfl)⟩
theorem fl_M_57 : gGet "ShipSetsModel" 57 10 19 (.array .int) := ⟨R_M, T_M, 27, "ShipSetsModel", cls_M, by decide, by decide +kernel, Or.inl rfl, Or.inl (gT_in3 82 rfl)⟩
theorem fl_M_60 : gGet "ShipSetsModel" 60 10 20 (.array .int) := ⟨R_M, T_M, 27, "ShipSetsModel", cls_M, by decide, by decide +kernel, Or.inl rfl, Or.inl (gT_in3 83 rfl)⟩
theorem fl_M_63 : gGet "ShipSetsModel" 63 10 21 (.array .int) := ⟨R_M, T_M, 27, "ShipSetsModel", cls_M, by decide, by decide +kernel, Or.inl rfl, Or.inl (gT_in3 84 rfl)⟩
theorem fl_M_67 : gGet "ShipSetsModel" 67 10 22 (.array .boolean) := ⟨R_M, T_M, 27, "ShipSetsModel", cls_M, by decide, by decide +kernel, Or.inl rfl, Or.inl (gT_in3 85 rfl)⟩
theorem fl_M_70 : gGet "ShipSetsModel" 70 10 23 (.array .int) := ⟨R_M, T_M, 27, "ShipSetsModel", cls_M, by decide, by decide +kernel, Or.inl rfl, Or.inl (gT_in3 86 rfl)⟩
theorem fl_M_73 : gGet "ShipSetsModel" 73 10 24 (.array .long) := ⟨R_M, T_M, 27, "ShipSetsModel", cls_M, by decide, by decide +kernel, Or.inl rfl, Or.inl (gT_in3 87 rfl)⟩
theorem fl_M_76 : gGet "ShipSetsModel" 76 10 25 (.array .long) := ⟨R_M, T_M, 27, "ShipSetsModel", cls_M, by decide, by decide +kernel, Or.inl rfl, Or.inl (gT_in3 88 rfl)⟩
theorem fl_M_79 : gGet "ShipSetsModel" 79 10 26 (.array .boolean) := ⟨R_M, T_M, 27, "ShipSetsModel", cls_M, by decide, by decide +kernel, Or.inl rfl, Or.inl (gT_in3 89 rfl)⟩
theorem fl_M_82 : gGet "ShipSetsModel" 82 10 0 (.int) := ⟨R_M, T_M, 27, "ShipSetsModel", cls_M, by decide, by decide +kernel, Or.inl rfl, Or.inl (gT_in3 63 rfl)⟩
theorem fl_M_86 : gGet "ShipSetsModel" 86 10 9 (.int) := ⟨R_M, T_M, 27, "ShipSetsModel", cls_M, by decide, by decide +kernel, Or.inl rfl, Or.inl (gT_in3 72 rfl)⟩
theorem fl_M_89 : gGet "ShipSetsModel" 89 10 2 (.int) := ⟨R_M, T_M, 27, "ShipSetsModel", cls_M, by decide, by decide +kernel, Or.inl rfl, Or.inl (gT_in3 65 rfl)⟩
theorem fl_M_126 : gGet "ShipSetsModel" 126 10 13 (.int) := ⟨R_M, T_M, 27, "ShipSetsModel", cls_M, by decide, by decide +kernel, Or.inl rfl, Or.inl (gT_in3 76 rfl)⟩
theorem fl_AL_9 : gGet "java/util/ArrayList" 9 9 0 (.array (.object "java/lang/Object")) := ⟨R_AL, T_AL, 3, "java/util/ArrayList", cls_AL, by decide, by decide +kernel, Or.inl rfl, Or.inl (gT_in0 41 rfl)⟩
theorem fl_AL_48 : gGet "java/util/ArrayList" 48 9 1 (.int) := ⟨R_AL, T_AL, 3, "java/util/ArrayList", cls_AL, by decide, by decide +kernel, Or.inl rfl, Or.inl (gT_in0 42 rfl)⟩
theorem fl_AL_63 : gGet "java/util/ArrayList" 63 9 2 (.int) := ⟨R_AL, T_AL, 3, "java/util/ArrayList", cls_AL, by decide, by decide +kernel, Or.inr (gT_in0 45 rfl), Or.inl (gT_in0 44 rfl)⟩
theorem fp_S_14 : gFld "ShipSets" 14 0 0 (.object "java/util/ArrayList") true := ⟨R_S, T_S, 7, "ShipSets", cls_S, by decide, by decide +kernel, rfl, (fun _ => ⟨rfl, rfl, (gT_in0 62 rfl)⟩), Or.inl rfl, Or.inl (gT_in0 62 rfl)⟩
theorem fp_S_18 : gFld "ShipSets" 18 0 1 (.object "java/util/ArrayList") true := ⟨R_S, T_S, 7, "ShipSets", cls_S, by decide, by decide +kernel, rfl, (fun _ => ⟨rfl, rfl, (gT_in0 63 rfl)⟩), Or.inl rfl, Or.inl (gT_in0 63 rfl)⟩
theorem fp_S_21 : gFld "ShipSets" 21 0 2 (.object "java/util/ArrayList") true := ⟨R_S, T_S, 7, "ShipSets", cls_S, by decide, by decide +kernel, rfl, (fun _ => ⟨rfl, rfl, (gT_in0 64 rfl)⟩), Or.inl rfl, Or.inl (gT_in0 64 rfl)⟩
theorem fp_S_26 : gFld "ShipSets" 26 0 3 (.array (.object "ShipSets$Telling")) true := ⟨R_S, T_S, 7, "ShipSets", cls_S, by decide, by decide +kernel, rfl, (fun _ => ⟨rfl, rfl, (gT_in0 65 rfl)⟩), Or.inl rfl, Or.inl (gT_in0 65 rfl)⟩
theorem fp_S_30 : gFld "ShipSets" 30 0 4 (.array .boolean) true := ⟨R_S, T_S, 7, "ShipSets", cls_S, by decide, by decide +kernel, rfl, (fun _ => ⟨rfl, rfl, (gT_in0 66 rfl)⟩), Or.inl rfl, Or.inl (gT_in0 66 rfl)⟩
theorem fp_S_37 : gFld "ShipSets" 37 0 5 (.object "ShipSets$Current") true := ⟨R_S, T_S, 7, "ShipSets", cls_S, by decide, by decide +kernel, rfl, (fun _ => ⟨rfl, rfl, (gT_in0 67 rfl)⟩), Or.inl rfl, Or.inl (gT_in0 67 rfl)⟩
theorem fp_S_41 : gFld "ShipSets" 41 0 6 (.int) false := ⟨R_S, T_S, 7, "ShipSets", cls_S, by decide, by decide +kernel, rfl, (fun h => by cases h), Or.inl rfl, Or.inl (gT_in0 68 rfl)⟩
theorem fp_S_83 : gFld "ShipSets" 83 1 3 (.boolean) false := ⟨R_Teller, T_Teller, 4, "ShipSets$Teller", cls_Teller, by decide, by decide +kernel, rfl, (fun h => by cases h), Or.inl rfl, Or.inr ⟨"ShipSets", by decide +kernel⟩⟩
theorem fp_S_156 : gFld "ShipSets" 156 4 2 (.boolean) false := ⟨R_ShipSet, T_ShipSet, 3, "ShipSets$ShipSet", cls_ShipSet, by decide, by decide +kernel, rfl, (fun h => by cases h), Or.inl rfl, Or.inr ⟨"ShipSets", by decide +kernel⟩⟩
theorem fp_Blocks_9 : gFld "ShipSets$Blocks" 9 2 0 (.array .int) true := ⟨R_Blocks, T_Blocks, 4, "ShipSets$Blocks", cls_Blocks, by decide, by decide +kernel, rfl, (fun _ => ⟨rfl, rfl, (gT_in0 96 rfl)⟩), Or.inl rfl, Or.inl (gT_in0 96 rfl)⟩
theorem fp_Blocks_15 : gFld "ShipSets$Blocks" 15 2 1 (.array .int) true := ⟨R_Blocks, T_Blocks, 4, "ShipSets$Blocks", cls_Blocks, by decide, by decide +kernel, rfl, (fun _ => ⟨rfl, rfl, (gT_in0 97 rfl)⟩), Or.inl rfl, Or.inl (gT_in0 97 rfl)⟩
theorem fp_Blocks_18 : gFld "ShipSets$Blocks" 18 2 2 (.array .int) true := ⟨R_Blocks, T_Blocks, 4, "ShipSets$Blocks", cls_Blocks, by decide, by decide +kernel, rfl, (fun _ => ⟨rfl, rfl, (gT_in0 98 rfl)⟩), Or.inl rfl, Or.inl (gT_in0 98 rfl)⟩
theorem fp_Blocks_21 : gFld "ShipSets$Blocks" 21 2 3 (.int) false := ⟨R_Blocks, T_Blocks, 4, "ShipSets$Blocks", cls_Blocks, by decide, by decide +kernel, rfl, (fun h => by cases h), Or.inl rfl, Or.inl (gT_in0 99 rfl)⟩
theorem fp_Clock_9 : gFld "ShipSets$Clock" 9 3 0 (.array .long) true := ⟨R_Clock, T_Clock, 3, "ShipSets$Clock", cls_Clock, by decide, by decide +kernel, rfl, (fun _ => ⟨rfl, rfl, (gT_in0 109 rfl)⟩), Or.inl rfl, Or.inl (gT_in0 109 rfl)⟩
theorem fp_Clock_15 : gFld "ShipSets$Clock" 15 3 1 (.array .long) true := ⟨R_Clock, T_Clock, 3, "ShipSets$Clock", cls_Clock, by decide, by decide +kernel, rfl, (fun _ => ⟨rfl, rfl, (gT_in0 110 rfl)⟩), Or.inl rfl, Or.inl (gT_in0 110 rfl)⟩
theorem fp_Clock_18 : gFld "ShipSets$Clock" 18 3 2 (.int) false := ⟨R_Clock, T_Clock, 3, "ShipSets$Clock", cls_Clock, by decide, by decide +kernel, rfl, (fun h => by cases h), Or.inl rfl, Or.inl (gT_in0 111 rfl)⟩
theorem fp_Current_9 : gFld "ShipSets$Current" 9 8 0 (.array .int) true := ⟨R_Current, T_Current, 2, "ShipSets$Current", cls_Current, by decide, by decide +kernel, rfl, (fun _ => ⟨rfl, rfl, (gT_in0 55 rfl)⟩), Or.inl rfl, Or.inl (gT_in0 55 rfl)⟩
theorem fp_Current_15 : gFld "ShipSets$Current" 15 8 1 (.array .long) true := ⟨R_Current, T_Current, 2, "ShipSets$Current", cls_Current, by decide, by decide +kernel, rfl, (fun _ => ⟨rfl, rfl, (gT_in0 56 rfl)⟩), Or.inl rfl, Or.inl (gT_in0 56 rfl)⟩
theorem fp_Holding_9 : gFld "ShipSets$Holding" 9 5 0 (.array .int) true := ⟨R_Holding, T_Holding, 2, "ShipSets$Holding", cls_Holding, by decide, by decide +kernel, rfl, (fun _ => ⟨rfl, rfl, (gT_in1 125 rfl)⟩), Or.inl rfl, Or.inl (gT_in1 125 rfl)⟩
theorem fp_Holding_15 : gFld "ShipSets$Holding" 15 5 1 (.long) false := ⟨R_Holding, T_Holding, 2, "ShipSets$Holding", cls_Holding, by decide, by decide +kernel, rfl, (fun h => by cases h), Or.inl rfl, Or.inl (gT_in1 126 rfl)⟩
theorem fp_Settling_9 : gFld "ShipSets$Settling" 9 6 0 (.int) true := ⟨R_Settling, T_Settling, 3, "ShipSets$Settling", cls_Settling, by decide, by decide +kernel, rfl, (fun _ => ⟨rfl, rfl, (gT_in2 96 rfl)⟩), Or.inl rfl, Or.inl (gT_in2 96 rfl)⟩
theorem fp_Settling_15 : gFld "ShipSets$Settling" 15 6 1 (.int) true := ⟨R_Settling, T_Settling, 3, "ShipSets$Settling", cls_Settling, by decide, by decide +kernel, rfl, (fun _ => ⟨rfl, rfl, (gT_in2 97 rfl)⟩), Or.inl rfl, Or.inl (gT_in2 97 rfl)⟩
theorem fp_Settling_30 : gFld "ShipSets$Settling" 30 6 2 (.array .int) true := ⟨R_Settling, T_Settling, 3, "ShipSets$Settling", cls_Settling, by decide, by decide +kernel, rfl, (fun _ => ⟨rfl, rfl, (gT_in2 98 rfl)⟩), Or.inl rfl, Or.inl (gT_in2 98 rfl)⟩
theorem fp_ShipSet_10 : gFld "ShipSets$ShipSet" 10 4 0 (.object "ShipSets$Holding") true := ⟨R_ShipSet, T_ShipSet, 3, "ShipSets$ShipSet", cls_ShipSet, by decide, by decide +kernel, rfl, (fun _ => ⟨rfl, rfl, (gT_in1 129 rfl)⟩), Or.inl rfl, Or.inl (gT_in1 129 rfl)⟩
theorem fp_ShipSet_16 : gFld "ShipSets$ShipSet" 16 4 1 (.object "ShipSets$Holding") true := ⟨R_ShipSet, T_ShipSet, 3, "ShipSets$ShipSet", cls_ShipSet, by decide, by decide +kernel, rfl, (fun _ => ⟨rfl, rfl, (gT_in1 130 rfl)⟩), Or.inl rfl, Or.inl (gT_in1 130 rfl)⟩
theorem fp_ShipSet_19 : gFld "ShipSets$ShipSet" 19 4 2 (.boolean) false := ⟨R_ShipSet, T_ShipSet, 3, "ShipSets$ShipSet", cls_ShipSet, by decide, by decide +kernel, rfl, (fun h => by cases h), Or.inl rfl, Or.inl (gT_in1 131 rfl)⟩
theorem fp_Teller_12 : gFld "ShipSets$Teller" 12 1 0 (.object "java/util/ArrayList") true := ⟨R_Teller, T_Teller, 4, "ShipSets$Teller", cls_Teller, by decide, by decide +kernel, rfl, (fun _ => ⟨rfl, rfl, (gT_in0 115 rfl)⟩), Or.inl rfl, Or.inl (gT_in0 115 rfl)⟩
theorem fp_Teller_21 : gFld "ShipSets$Teller" 21 1 1 (.object "ShipSets$Blocks") true := ⟨R_Teller, T_Teller, 4, "ShipSets$Teller", cls_Teller, by decide, by decide +kernel, rfl, (fun _ => ⟨rfl, rfl, (gT_in0 116 rfl)⟩), Or.inl rfl, Or.inl (gT_in0 116 rfl)⟩
theorem fp_Teller_28 : gFld "ShipSets$Teller" 28 1 2 (.object "ShipSets$Clock") true := ⟨R_Teller, T_Teller, 4, "ShipSets$Teller", cls_Teller, by decide, by decide +kernel, rfl, (fun _ => ⟨rfl, rfl, (gT_in0 117 rfl)⟩), Or.inl rfl, Or.inl (gT_in0 117 rfl)⟩
theorem fp_Teller_32 : gFld "ShipSets$Teller" 32 1 3 (.boolean) false := ⟨R_Teller, T_Teller, 4, "ShipSets$Teller", cls_Teller, by decide, by decide +kernel, rfl, (fun h => by cases h), Or.inl rfl, Or.inl (gT_in0 118 rfl)⟩
theorem fp_Telling_7 : gFld "ShipSets$Telling" 7 7 0 (.int) true := ⟨R_Telling, T_Telling, 7, "ShipSets$Telling", cls_Telling, by decide, by decide +kernel, rfl, (fun _ => ⟨rfl, rfl, (gT_in1 85 rfl)⟩), Or.inl rfl, Or.inl (gT_in1 85 rfl)⟩
theorem fp_Telling_13 : gFld "ShipSets$Telling" 13 7 1 (.int) true := ⟨R_Telling, T_Telling, 7, "ShipSets$Telling", cls_Telling, by decide, by decide +kernel, rfl, (fun _ => ⟨rfl, rfl, (gT_in1 86 rfl)⟩), Or.inl rfl, Or.inl (gT_in1 86 rfl)⟩
theorem fp_Telling_16 : gFld "ShipSets$Telling" 16 7 2 (.int) true := ⟨R_Telling, T_Telling, 7, "ShipSets$Telling", cls_Telling, by decide, by decide +kernel, rfl, (fun _ => ⟨rfl, rfl, (gT_in1 87 rfl)⟩), Or.inl rfl, Or.inl (gT_in1 87 rfl)⟩
theorem fp_Telling_19 : gFld "ShipSets$Telling" 19 7 3 (.int) true := ⟨R_Telling, T_Telling, 7, "ShipSets$Telling", cls_Telling, by decide, by decide +kernel, rfl, (fun _ => ⟨rfl, rfl, (gT_in1 88 rfl)⟩), Or.inl rfl, Or.inl (gT_in1 88 rfl)⟩
theorem fp_Telling_22 : gFld "ShipSets$Telling" 22 7 4 (.long) true := ⟨R_Telling, T_Telling, 7, "ShipSets$Telling", cls_Telling, by decide, by decide +kernel, rfl, (fun _ => ⟨rfl, rfl, (gT_in1 89 rfl)⟩), Or.inl rfl, Or.inl (gT_in1 89 rfl)⟩
theorem fp_Telling_26 : gFld "ShipSets$Telling" 26 7 5 (.int) true := ⟨R_Telling, T_Telling, 7, "ShipSets$Telling", cls_Telling, by decide, by decide +kernel, rfl, (fun _ => ⟨rfl, rfl, (gT_in1 90 rfl)⟩), Or.inl rfl, Or.inl (gT_in1 90 rfl)⟩
theorem fp_Telling_29 : gFld "ShipSets$Telling" 29 7 6 (.object "ShipSets$Telling") true := ⟨R_Telling, T_Telling, 7, "ShipSets$Telling", cls_Telling, by decide, by decide +kernel, rfl, (fun _ => ⟨rfl, rfl, (gT_in1 91 rfl)⟩), Or.inl rfl, Or.inl (gT_in1 91 rfl)⟩
theorem fp_M_7 : gFld "ShipSetsModel" 7 10 1 (.array .boolean) true := ⟨R_M, T_M, 27, "ShipSetsModel", cls_M, by decide, by decide +kernel, rfl, (fun _ => ⟨rfl, rfl, (gT_in3 64 rfl)⟩), Or.inl rfl, Or.inl (gT_in3 64 rfl)⟩
theorem fp_M_13 : gFld "ShipSetsModel" 13 10 3 (.array .int) true := ⟨R_M, T_M, 27, "ShipSetsModel", cls_M, by decide, by decide +kernel, rfl, (fun _ => ⟨rfl, rfl, (gT_in3 66 rfl)⟩), Or.inl rfl, Or.inl (gT_in3 66 rfl)⟩
theorem fp_M_17 : gFld "ShipSetsModel" 17 10 4 (.array .int) true := ⟨R_M, T_M, 27, "ShipSetsModel", cls_M, by decide, by decide +kernel, rfl, (fun _ => ⟨rfl, rfl, (gT_in3 67 rfl)⟩), Or.inl rfl, Or.inl (gT_in3 67 rfl)⟩
theorem fp_M_20 : gFld "ShipSetsModel" 20 10 5 (.array .int) true := ⟨R_M, T_M, 27, "ShipSetsModel", cls_M, by decide, by decide +kernel, rfl, (fun _ => ⟨rfl, rfl, (gT_in3 68 rfl)⟩), Or.inl rfl, Or.inl (gT_in3 68 rfl)⟩
theorem fp_M_23 : gFld "ShipSetsModel" 23 10 6 (.array .int) true := ⟨R_M, T_M, 27, "ShipSetsModel", cls_M, by decide, by decide +kernel, rfl, (fun _ => ⟨rfl, rfl, (gT_in3 69 rfl)⟩), Or.inl rfl, Or.inl (gT_in3 69 rfl)⟩
theorem fp_M_26 : gFld "ShipSetsModel" 26 10 7 (.array .long) true := ⟨R_M, T_M, 27, "ShipSetsModel", cls_M, by decide, by decide +kernel, rfl, (fun _ => ⟨rfl, rfl, (gT_in3 70 rfl)⟩), Or.inl rfl, Or.inl (gT_in3 70 rfl)⟩
theorem fp_M_30 : gFld "ShipSetsModel" 30 10 8 (.array .int) true := ⟨R_M, T_M, 27, "ShipSetsModel", cls_M, by decide, by decide +kernel, rfl, (fun _ => ⟨rfl, rfl, (gT_in3 71 rfl)⟩), Or.inl rfl, Or.inl (gT_in3 71 rfl)⟩
theorem fp_M_33 : gFld "ShipSetsModel" 33 10 10 (.array .boolean) true := ⟨R_M, T_M, 27, "ShipSetsModel", cls_M, by decide, by decide +kernel, rfl, (fun _ => ⟨rfl, rfl, (gT_in3 73 rfl)⟩), Or.inl rfl, Or.inl (gT_in3 73 rfl)⟩
theorem fp_M_36 : gFld "ShipSetsModel" 36 10 11 (.array .boolean) true := ⟨R_M, T_M, 27, "ShipSetsModel", cls_M, by decide, by decide +kernel, rfl, (fun _ => ⟨rfl, rfl, (gT_in3 74 rfl)⟩), Or.inl rfl, Or.inl (gT_in3 74 rfl)⟩
theorem fp_M_39 : gFld "ShipSetsModel" 39 10 12 (.array .boolean) true := ⟨R_M, T_M, 27, "ShipSetsModel", cls_M, by decide, by decide +kernel, rfl, (fun _ => ⟨rfl, rfl, (gT_in3 75 rfl)⟩), Or.inl rfl, Or.inl (gT_in3 75 rfl)⟩
theorem fp_M_42 : gFld "ShipSetsModel" 42 10 14 (.array .int) true := ⟨R_M, T_M, 27, "ShipSetsModel", cls_M, by decide, by decide +kernel, rfl, (fun _ => ⟨rfl, rfl, (gT_in3 77 rfl)⟩), Or.inl rfl, Or.inl (gT_in3 77 rfl)⟩
theorem fp_M_45 : gFld "ShipSetsModel" 45 10 15 (.array .int) true := ⟨R_M, T_M, 27, "ShipSetsModel", cls_M, by decide, by decide +kernel, rfl, (fun _ => ⟨rfl, rfl, (gT_in3 78 rfl)⟩), Or.inl rfl, Or.inl (gT_in3 78 rfl)⟩
theorem fp_M_48 : gFld "ShipSetsModel" 48 10 16 (.array .int) true := ⟨R_M, T_M, 27, "ShipSetsModel", cls_M, by decide, by decide +kernel, rfl, (fun _ => ⟨rfl, rfl, (gT_in3 79 rfl)⟩), Or.inl rfl, Or.inl (gT_in3 79 rfl)⟩
theorem fp_M_51 : gFld "ShipSetsModel" 51 10 17 (.array .boolean) true := ⟨R_M, T_M, 27, "ShipSetsModel", cls_M, by decide, by decide +kernel, rfl, (fun _ => ⟨rfl, rfl, (gT_in3 80 rfl)⟩), Or.inl rfl, Or.inl (gT_in3 80 rfl)⟩
theorem fp_M_54 : gFld "ShipSetsModel" 54 10 18 (.array .boolean) true := ⟨R_M, T_M, 27, "ShipSetsModel", cls_M, by decide, by decide +kernel, rfl, (fun _ => ⟨rfl, rfl, (gT_in3 81 rfl)⟩), Or.inl rfl, Or.inl (gT_in3 81 rfl)⟩
theorem fp_M_57 : gFld "ShipSetsModel" 57 10 19 (.array .int) true := ⟨R_M, T_M, 27, "ShipSetsModel", cls_M, by decide, by decide +kernel, rfl, (fun _ => ⟨rfl, rfl, (gT_in3 82 rfl)⟩), Or.inl rfl, Or.inl (gT_in3 82 rfl)⟩
theorem fp_M_60 : gFld "ShipSetsModel" 60 10 20 (.array .int) true := ⟨R_M, T_M, 27, "ShipSetsModel", cls_M, by decide, by decide +kernel, rfl, (fun _ => ⟨rfl, rfl, (gT_in3 83 rfl)⟩), Or.inl rfl, Or.inl (gT_in3 83 rfl)⟩
theorem fp_M_63 : gFld "ShipSetsModel" 63 10 21 (.array .int) true := ⟨R_M, T_M, 27, "ShipSetsModel", cls_M, by decide, by decide +kernel, rfl, (fun _ => ⟨rfl, rfl, (gT_in3 84 rfl)⟩), Or.inl rfl, Or.inl (gT_in3 84 rfl)⟩
theorem fp_M_67 : gFld "ShipSetsModel" 67 10 22 (.array .boolean) true := ⟨R_M, T_M, 27, "ShipSetsModel", cls_M, by decide, by decide +kernel, rfl, (fun _ => ⟨rfl, rfl, (gT_in3 85 rfl)⟩), Or.inl rfl, Or.inl (gT_in3 85 rfl)⟩
theorem fp_M_70 : gFld "ShipSetsModel" 70 10 23 (.array .int) true := ⟨R_M, T_M, 27, "ShipSetsModel", cls_M, by decide, by decide +kernel, rfl, (fun _ => ⟨rfl, rfl, (gT_in3 86 rfl)⟩), Or.inl rfl, Or.inl (gT_in3 86 rfl)⟩
theorem fp_M_73 : gFld "ShipSetsModel" 73 10 24 (.array .long) true := ⟨R_M, T_M, 27, "ShipSetsModel", cls_M, by decide, by decide +kernel, rfl, (fun _ => ⟨rfl, rfl, (gT_in3 87 rfl)⟩), Or.inl rfl, Or.inl (gT_in3 87 rfl)⟩
theorem fp_M_76 : gFld "ShipSetsModel" 76 10 25 (.array .long) true := ⟨R_M, T_M, 27, "ShipSetsModel", cls_M, by decide, by decide +kernel, rfl, (fun _ => ⟨rfl, rfl, (gT_in3 88 rfl)⟩), Or.inl rfl, Or.inl (gT_in3 88 rfl)⟩
theorem fp_M_79 : gFld "ShipSetsModel" 79 10 26 (.array .boolean) true := ⟨R_M, T_M, 27, "ShipSetsModel", cls_M, by decide, by decide +kernel, rfl, (fun _ => ⟨rfl, rfl, (gT_in3 89 rfl)⟩), Or.inl rfl, Or.inl (gT_in3 89 rfl)⟩
theorem fp_M_82 : gFld "ShipSetsModel" 82 10 0 (.int) false := ⟨R_M, T_M, 27, "ShipSetsModel", cls_M, by decide, by decide +kernel, rfl, (fun h => by cases h), Or.inl rfl, Or.inl (gT_in3 63 rfl)⟩
theorem fp_M_86 : gFld "ShipSetsModel" 86 10 9 (.int) false := ⟨R_M, T_M, 27, "ShipSetsModel", cls_M, by decide, by decide +kernel, rfl, (fun h => by cases h), Or.inl rfl, Or.inl (gT_in3 72 rfl)⟩
theorem fp_M_89 : gFld "ShipSetsModel" 89 10 2 (.int) false := ⟨R_M, T_M, 27, "ShipSetsModel", cls_M, by decide, by decide +kernel, rfl, (fun h => by cases h), Or.inl rfl, Or.inl (gT_in3 65 rfl)⟩
theorem fp_M_126 : gFld "ShipSetsModel" 126 10 13 (.int) false := ⟨R_M, T_M, 27, "ShipSetsModel", cls_M, by decide, by decide +kernel, rfl, (fun h => by cases h), Or.inl rfl, Or.inl (gT_in3 76 rfl)⟩
theorem fp_AbstractList_7 : gFld "java/util/AbstractList" 7 9 2 (.int) false := ⟨R_AL, T_AL, 3, "java/util/AbstractList", cls_AL, by decide, by decide +kernel, rfl, (fun h => by cases h), Or.inl rfl, Or.inl (gT_in0 43 rfl)⟩
theorem fp_AL_9 : gFld "java/util/ArrayList" 9 9 0 (.array (.object "java/lang/Object")) false := ⟨R_AL, T_AL, 3, "java/util/ArrayList", cls_AL, by decide, by decide +kernel, rfl, (fun h => by cases h), Or.inl rfl, Or.inl (gT_in0 41 rfl)⟩
theorem fp_AL_48 : gFld "java/util/ArrayList" 48 9 1 (.int) false := ⟨R_AL, T_AL, 3, "java/util/ArrayList", cls_AL, by decide, by decide +kernel, rfl, (fun h => by cases h), Or.inl rfl, Or.inl (gT_in0 42 rfl)⟩
theorem fp_AL_63 : gFld "java/util/ArrayList" 63 9 2 (.int) false := ⟨R_AL, T_AL, 3, "java/util/ArrayList", cls_AL, by decide, by decide +kernel, rfl, (fun h => by cases h), Or.inr (gT_in0 45 rfl), Or.inl (gT_in0 44 rfl)⟩
theorem nw_S_11 : gNew "ShipSets" 11 9 3 [.null, .int 0, .int 0] := ⟨R_AL, T_AL, ty_AL, rfl, cls_AL.2.1, by decide +kernel, (gT_in0 28 rfl), (gT_in0 29 rfl), (gT_in0 4 rfl), fun j hj => by
    match j, hj with
    | 0, _ => rfl
    | 1, _ => rfl
    | 2, _ => rfl
    | j + 3, hj => exact absurd hj (by omega)⟩
theorem nw_S_24 : gNew "ShipSets" 24 7 7 [.int 0, .int 0, .int 0, .int 0, .long 0, .int 0, .null] := ⟨R_Telling, T_Telling, ty_Telling, rfl, cls_Telling.2.1, by decide +kernel, (gT_in0 49 rfl), (gT_in1 80 rfl), (gT_in0 16 rfl), fun j hj => by
    match j, hj with
    | 0, _ => rfl
    | 1, _ => rfl
    | 2, _ => rfl
    | 3, _ => rfl
    | 4, _ => rfl
    | 5, _ => rfl
    | 6, _ => rfl
    | j + 7, hj => exact absurd hj (by omega)⟩
theorem nw_S_34 : gNew "ShipSets" 34 8 2 [.null, .null] := ⟨R_Current, T_Current, ty_Current, rfl, cls_Current.2.1, by decide +kernel, (gT_in0 50 rfl), (gT_in0 51 rfl), (gT_in0 5 rfl), fun j hj => by
    match j, hj with
    | 0, _ => rfl
    | 1, _ => rfl
    | j + 2, hj => exact absurd hj (by omega)⟩
theorem nw_S_49 : gNew "ShipSets" 49 1 4 [.null, .null, .null, .int 0] := ⟨R_Teller, T_Teller, ty_Teller, rfl, cls_Teller.2.1, by decide +kernel, (gT_in0 84 rfl), (gT_in0 85 rfl), (gT_in0 7 rfl), fun j hj => by
    match j, hj with
    | 0, _ => rfl
    | 1, _ => rfl
    | 2, _ => rfl
    | 3, _ => rfl
    | j + 4, hj => exact absurd hj (by omega)⟩
theorem nw_S_97 : gNew "ShipSets" 97 4 3 [.null, .null, .int 0] := ⟨R_ShipSet, T_ShipSet, ty_ShipSet, rfl, cls_ShipSet.2.1, by decide +kernel, (gT_in1 115 rfl), (gT_in1 116 rfl), (gT_in0 17 rfl), fun j hj => by
    match j, hj with
    | 0, _ => rfl
    | 1, _ => rfl
    | 2, _ => rfl
    | j + 3, hj => exact absurd hj (by omega)⟩
theorem nw_S_151 : gNew "ShipSets" 151 6 3 [.int 0, .int 0, .null] := ⟨R_Settling, T_Settling, ty_Settling, rfl, cls_Settling.2.1, by decide +kernel, (gT_in2 37 rfl), (gT_in2 82 rfl), (gT_in0 19 rfl), fun j hj => by
    match j, hj with
    | 0, _ => rfl
    | 1, _ => rfl
    | 2, _ => rfl
    | j + 3, hj => exact absurd hj (by omega)⟩
theorem nw_ShipSet_7 : gNew "ShipSets$ShipSet" 7 5 2 [.null, .long 0] := ⟨R_Holding, T_Holding, ty_Holding, rfl, cls_Holding.2.1, by decide +kernel, (gT_in1 120 rfl), (gT_in1 121 rfl), (gT_in0 18 rfl), fun j hj => by
    match j, hj with
    | 0, _ => rfl
    | 1, _ => rfl
    | j + 2, hj => exact absurd hj (by omega)⟩
theorem nw_Teller_9 : gNew "ShipSets$Teller" 9 9 3 [.null, .int 0, .int 0] := ⟨R_AL, T_AL, ty_AL, rfl, cls_AL.2.1, by decide +kernel, (gT_in0 89 rfl), (gT_in0 29 rfl), (gT_in0 4 rfl), fun j hj => by
    match j, hj with
    | 0, _ => rfl
    | 1, _ => rfl
    | 2, _ => rfl
    | j + 3, hj => exact absurd hj (by omega)⟩
theorem nw_Teller_18 : gNew "ShipSets$Teller" 18 2 4 [.null, .null, .null, .int 0] := ⟨R_Blocks, T_Blocks, ty_Blocks, rfl, cls_Blocks.2.1, by decide +kernel, (gT_in0 91 rfl), (gT_in0 92 rfl), (gT_in0 8 rfl), fun j hj => by
    match j, hj with
    | 0, _ => rfl
    | 1, _ => rfl
    | 2, _ => rfl
    | 3, _ => rfl
    | j + 4, hj => exact absurd hj (by omega)⟩
theorem nw_Teller_25 : gNew "ShipSets$Teller" 25 3 3 [.null, .null, .int 0] := ⟨R_Clock, T_Clock, ty_Clock, rfl, cls_Clock.2.1, by decide +kernel, (gT_in0 104 rfl), (gT_in0 105 rfl), (gT_in0 9 rfl), fun j hj => by
    match j, hj with
    | 0, _ => rfl
    | 1, _ => rfl
    | 2, _ => rfl
    | j + 3, hj => exact absurd hj (by omega)⟩
theorem nw_Law_7 : gNew "ShipSetsLaw" 7 0 7 [.null, .null, .null, .null, .null, .null, .int 0] := ⟨R_S, T_S, ty_S, rfl, cls_S.2.1, by decide +kernel, (gT_in0 20 rfl), (gT_in0 21 rfl), (gT_in0 1 rfl), fun j hj => by
    match j, hj with
    | 0, _ => rfl
    | 1, _ => rfl
    | 2, _ => rfl
    | 3, _ => rfl
    | 4, _ => rfl
    | 5, _ => rfl
    | 6, _ => rfl
    | j + 7, hj => exact absurd hj (by omega)⟩
theorem nw_Law_10 : gNew "ShipSetsLaw" 10 10 27 [.int 0, .null, .int 0, .null, .null, .null, .null, .null, .null, .int 0, .null, .null, .null, .int 0, .null, .null, .null, .null, .null, .null, .null, .null, .null, .null, .null, .null, .null] := ⟨R_M, T_M, ty_M, rfl, cls_M.2.1, by decide +kernel, (gT_in3 56 rfl), (gT_in3 57 rfl), (gT_in0 6 rfl), fun j hj => by
    match j, hj with
    | 0, _ => rfl
    | 1, _ => rfl
    | 2, _ => rfl
    | 3, _ => rfl
    | 4, _ => rfl
    | 5, _ => rfl
    | 6, _ => rfl
    | 7, _ => rfl
    | 8, _ => rfl
    | 9, _ => rfl
    | 10, _ => rfl
    | 11, _ => rfl
    | 12, _ => rfl
    | 13, _ => rfl
    | 14, _ => rfl
    | 15, _ => rfl
    | 16, _ => rfl
    | 17, _ => rfl
    | 18, _ => rfl
    | 19, _ => rfl
    | 20, _ => rfl
    | 21, _ => rfl
    | 22, _ => rfl
    | 23, _ => rfl
    | 24, _ => rfl
    | 25, _ => rfl
    | 26, _ => rfl
    | j + 27, hj => exact absurd hj (by omega)⟩
theorem cf_S_13 : gCi "ShipSets" 13 y_AL_init Y_AL_init := ⟨⟨rfl, (gT_in0 32 rfl), (gT_in0 4 rfl), by decide +kernel, by decide +kernel, Or.inl (gT_in0 30 rfl)⟩, (gT_in0 31 rfl), rfl, rfl⟩
theorem cf_S_36 : gCi "ShipSets" 36 y_Current_init Y_Current_init := ⟨⟨rfl, (gT_in0 53 rfl), (gT_in0 5 rfl), by decide +kernel, by decide +kernel, Or.inr ⟨"ShipSets", by decide +kernel⟩⟩, (gT_in0 52 rfl), rfl, rfl⟩
theorem cf_S_45 : gCv "ShipSets" 45 y_AL_size Y_AL_size 9 := ⟨⟨rfl, (gT_in0 83 rfl), (gT_in0 4 rfl), by decide +kernel, by decide +kernel, Or.inl (gT_in0 80 rfl)⟩, (gT_in0 81 rfl), (gT_in0 82 rfl), T_AL, 3, rfl⟩
theorem cf_S_51 : gCi "ShipSets" 51 y_Teller_init Y_Teller_init := ⟨⟨rfl, (gT_in0 87 rfl), (gT_in0 7 rfl), by decide +kernel, by decide +kernel, Or.inr ⟨"ShipSets", by decide +kernel⟩⟩, (gT_in0 86 rfl), rfl, rfl⟩
theorem cf_S_52 : gCv "ShipSets" 52 y_AL_add Y_AL_add 9 := ⟨⟨rfl, (gT_in0 126 rfl), (gT_in0 4 rfl), by decide +kernel, by decide +kernel, Or.inl (gT_in0 123 rfl)⟩, (gT_in0 124 rfl), (gT_in0 125 rfl), T_AL, 3, rfl⟩
theorem cf_S_56 : gCv "ShipSets" 56 y_S_tellerAt Y_S_tellerAt 0 := ⟨⟨rfl, (gT_in1 33 rfl), (gT_in0 1 rfl), by decide +kernel, by decide +kernel, Or.inl (gT_in1 31 rfl)⟩, (gT_in1 32 rfl), (gT_ins 3 rfl), T_S, 7, rfl⟩
theorem cf_S_60 : gCs "ShipSets" 60 y_S_cellOf Y_S_cellOf := ⟨⟨rfl, (gT_in1 50 rfl), (gT_in0 1 rfl), by decide +kernel, by decide +kernel, Or.inl (gT_in1 48 rfl)⟩, (gT_in1 49 rfl)⟩
theorem cf_S_64 : gCs "ShipSets" 64 y_S_isNumber Y_S_isNumber := ⟨⟨rfl, (gT_in1 56 rfl), (gT_in0 1 rfl), by decide +kernel, by decide +kernel, Or.inl (gT_in1 54 rfl)⟩, (gT_in1 55 rfl)⟩
theorem cf_S_68 : gCs "ShipSets" 68 y_S_isValue Y_S_isValue := ⟨⟨rfl, (gT_in1 59 rfl), (gT_in0 1 rfl), by decide +kernel, by decide +kernel, Or.inl (gT_in1 57 rfl)⟩, (gT_in1 58 rfl)⟩
theorem cf_S_72 : gCs "ShipSets" 72 y_S_isDay Y_S_isDay := ⟨⟨rfl, (gT_in1 64 rfl), (gT_in0 1 rfl), by decide +kernel, by decide +kernel, Or.inl (gT_in1 62 rfl)⟩, (gT_in1 63 rfl)⟩
theorem cf_S_75 : gCv "ShipSets" 75 y_Teller_toldWith Y_Teller_toldWith 1 := ⟨⟨rfl, (gT_in1 69 rfl), (gT_in0 7 rfl), by decide +kernel, by decide +kernel, Or.inl (gT_in1 66 rfl)⟩, (gT_in1 67 rfl), (gT_in1 68 rfl), T_Teller, 4, rfl⟩
theorem cf_S_79 : gCv "ShipSets" 79 y_Telling_says Y_Telling_says 7 := ⟨⟨rfl, (gT_in1 79 rfl), (gT_in0 16 rfl), by decide +kernel, by decide +kernel, Or.inl (gT_in1 76 rfl)⟩, (gT_in1 77 rfl), (gT_in1 78 rfl), T_Telling, 7, rfl⟩
theorem cf_S_90 : gCi "ShipSets" 90 y_Telling_init Y_Telling_init := ⟨⟨rfl, (gT_in1 83 rfl), (gT_in0 16 rfl), by decide +kernel, by decide +kernel, Or.inl (gT_in1 81 rfl)⟩, (gT_in1 82 rfl), rfl, rfl⟩
theorem cf_S_93 : gCv "ShipSets" 93 y_Teller_keep Y_Teller_keep 1 := ⟨⟨rfl, (gT_in1 102 rfl), (gT_in0 7 rfl), by decide +kernel, by decide +kernel, Or.inl (gT_in1 99 rfl)⟩, (gT_in1 100 rfl), (gT_in1 101 rfl), T_Teller, 4, rfl⟩
theorem cf_S_99 : gCi "ShipSets" 99 y_ShipSet_init Y_ShipSet_init := ⟨⟨rfl, (gT_in1 118 rfl), (gT_in0 17 rfl), by decide +kernel, by decide +kernel, Or.inr ⟨"ShipSets", by decide +kernel⟩⟩, (gT_in1 117 rfl), rfl, rfl⟩
theorem cf_S_110 : gCv "ShipSets" 110 y_S_setAt Y_S_setAt 0 := ⟨⟨rfl, (gT_in1 141 rfl), (gT_in0 1 rfl), by decide +kernel, by decide +kernel, Or.inl (gT_in1 139 rfl)⟩, (gT_in1 140 rfl), (gT_ins 6 rfl), T_S, 7, rfl⟩
theorem cf_S_114 : gCv "ShipSets" 114 y_Holding_takeAllOf Y_Holding_takeAllOf 5 := ⟨⟨rfl, (gT_in1 145 rfl), (gT_in0 18 rfl), by decide +kernel, by decide +kernel, Or.inl (gT_in1 142 rfl)⟩, (gT_in1 143 rfl), (gT_in1 144 rfl), T_Holding, 2, rfl⟩
theorem cf_S_118 : gCv "ShipSets" 118 y_S_countConflicts Y_S_countConflicts 0 := ⟨⟨rfl, (gT_in1 149 rfl), (gT_in0 1 rfl), by decide +kernel, by decide +kernel, Or.inl (gT_in1 147 rfl)⟩, (gT_in1 148 rfl), (gT_ins 7 rfl), T_S, 7, rfl⟩
theorem cf_S_122 : gCv "ShipSets" 122 y_Holding_isSameAs Y_Holding_isSameAs 5 := ⟨⟨rfl, (gT_in2 61 rfl), (gT_in0 18 rfl), by decide +kernel, by decide +kernel, Or.inl (gT_in2 58 rfl)⟩, (gT_in2 59 rfl), (gT_in2 60 rfl), T_Holding, 2, rfl⟩
theorem cf_S_128 : gCv "ShipSets" 128 y_S_valueOn Y_S_valueOn 0 := ⟨⟨rfl, (gT_in2 5 rfl), (gT_in0 1 rfl), by decide +kernel, by decide +kernel, Or.inl (gT_in2 3 rfl)⟩, (gT_in2 4 rfl), (gT_ins 9 rfl), T_S, 7, rfl⟩
theorem cf_S_132 : gCv "ShipSets" 132 y_S_cellInConflict Y_S_cellInConflict 0 := ⟨⟨rfl, (gT_in2 72 rfl), (gT_in0 1 rfl), by decide +kernel, by decide +kernel, Or.inl (gT_in2 70 rfl)⟩, (gT_in2 71 rfl), (gT_ins 12 rfl), T_S, 7, rfl⟩
theorem cf_S_137 : gCv "ShipSets" 137 y_S_findCurrent Y_S_findCurrent 0 := ⟨⟨rfl, (gT_in2 8 rfl), (gT_in0 1 rfl), by decide +kernel, by decide +kernel, Or.inl (gT_in2 6 rfl)⟩, (gT_in2 7 rfl), (gT_ins 10 rfl), T_S, 7, rfl⟩
theorem cf_S_141 : gCv "ShipSets" 141 y_Current_count Y_Current_count 8 := ⟨⟨rfl, (gT_in2 53 rfl), (gT_in0 5 rfl), by decide +kernel, by decide +kernel, Or.inl (gT_in2 50 rfl)⟩, (gT_in2 51 rfl), (gT_in2 52 rfl), T_Current, 2, rfl⟩
theorem cf_S_144 : gCv "ShipSets" 144 y_Current_has Y_Current_has 8 := ⟨⟨rfl, (gT_in2 32 rfl), (gT_in0 5 rfl), by decide +kernel, by decide +kernel, Or.inl (gT_in2 77 rfl)⟩, (gT_in2 30 rfl), (gT_in2 31 rfl), T_Current, 2, rfl⟩
theorem cf_S_147 : gCv "ShipSets" 147 y_Holding_takeSettling Y_Holding_takeSettling 5 := ⟨⟨rfl, (gT_in2 81 rfl), (gT_in0 18 rfl), by decide +kernel, by decide +kernel, Or.inl (gT_in2 78 rfl)⟩, (gT_in2 79 rfl), (gT_in2 80 rfl), T_Holding, 2, rfl⟩
theorem cf_S_153 : gCi "ShipSets" 153 y_Settling_init Y_Settling_init := ⟨⟨rfl, (gT_in2 85 rfl), (gT_in0 19 rfl), by decide +kernel, by decide +kernel, Or.inl (gT_in2 83 rfl)⟩, (gT_in2 84 rfl), rfl, rfl⟩
theorem cf_S_162 : gCv "ShipSets" 162 y_Holding_becomeLike Y_Holding_becomeLike 5 := ⟨⟨rfl, (gT_in2 109 rfl), (gT_in0 18 rfl), by decide +kernel, by decide +kernel, Or.inl (gT_in2 106 rfl)⟩, (gT_in2 107 rfl), (gT_in2 108 rfl), T_Holding, 2, rfl⟩
theorem cf_S_165 : gCs "ShipSets" 165 y_S_isPerson Y_S_isPerson := ⟨⟨rfl, (gT_in2 121 rfl), (gT_in0 1 rfl), by decide +kernel, by decide +kernel, Or.inl (gT_in2 119 rfl)⟩, (gT_in2 120 rfl)⟩
theorem cf_S_168 : gCs "ShipSets" 168 y_S_isKind Y_S_isKind := ⟨⟨rfl, (gT_in1 53 rfl), (gT_in0 1 rfl), by decide +kernel, by decide +kernel, Or.inl (gT_in1 51 rfl)⟩, (gT_in1 52 rfl)⟩
theorem cf_S_175 : gCv "ShipSets" 175 y_Blocks_add Y_Blocks_add 2 := ⟨⟨rfl, (gT_in2 133 rfl), (gT_in0 8 rfl), by decide +kernel, by decide +kernel, Or.inl (gT_in2 130 rfl)⟩, (gT_in2 131 rfl), (gT_in2 132 rfl), T_Blocks, 4, rfl⟩
theorem cf_S_180 : gCv "ShipSets" 180 y_Teller_giveNumber Y_Teller_giveNumber 1 := ⟨⟨rfl, (gT_in2 146 rfl), (gT_in0 7 rfl), by decide +kernel, by decide +kernel, Or.inl (gT_in2 143 rfl)⟩, (gT_in2 144 rfl), (gT_in2 145 rfl), T_Teller, 4, rfl⟩
theorem cf_S_183 : gCv "ShipSets" 183 y_Teller_endOfLostSpan Y_Teller_endOfLostSpan 1 := ⟨⟨rfl, (gT_in3 5 rfl), (gT_in0 7 rfl), by decide +kernel, by decide +kernel, Or.inl (gT_in3 2 rfl)⟩, (gT_in3 3 rfl), (gT_in3 4 rfl), T_Teller, 4, rfl⟩
theorem cf_S_186 : gCs "ShipSets" 186 y_S_isSecond Y_S_isSecond := ⟨⟨rfl, (gT_in3 30 rfl), (gT_in0 1 rfl), by decide +kernel, by decide +kernel, Or.inl (gT_in3 28 rfl)⟩, (gT_in3 29 rfl)⟩
theorem cf_S_193 : gCv "ShipSets" 193 y_Clock_add Y_Clock_add 3 := ⟨⟨rfl, (gT_in3 34 rfl), (gT_in0 9 rfl), by decide +kernel, by decide +kernel, Or.inl (gT_in3 31 rfl)⟩, (gT_in3 32 rfl), (gT_in3 33 rfl), T_Clock, 3, rfl⟩
theorem cf_S_200 : gCv "ShipSets" 200 y_Clock_trueSecond Y_Clock_trueSecond 3 := ⟨⟨rfl, (gT_in3 43 rfl), (gT_in0 9 rfl), by decide +kernel, by decide +kernel, Or.inl (gT_in3 40 rfl)⟩, (gT_in3 41 rfl), (gT_in3 42 rfl), T_Clock, 3, rfl⟩
theorem cf_S_208 : gCv "ShipSets" 208 y_AL_get Y_AL_get 9 := ⟨⟨rfl, (gT_in1 37 rfl), (gT_in0 4 rfl), by decide +kernel, by decide +kernel, Or.inl (gT_in1 34 rfl)⟩, (gT_in1 35 rfl), (gT_in1 36 rfl), T_AL, 3, rfl⟩
theorem cf_S_212 : gCv "ShipSets" 212 y_Current_clear Y_Current_clear 8 := ⟨⟨rfl, (gT_in2 12 rfl), (gT_in0 5 rfl), by decide +kernel, by decide +kernel, Or.inl (gT_in2 9 rfl)⟩, (gT_in2 10 rfl), (gT_in2 11 rfl), T_Current, 2, rfl⟩
theorem cf_S_218 : gCv "ShipSets" 218 y_Holding_has Y_Holding_has 5 := ⟨⟨rfl, (gT_in2 19 rfl), (gT_in0 18 rfl), by decide +kernel, by decide +kernel, Or.inl (gT_in2 16 rfl)⟩, (gT_in2 17 rfl), (gT_in2 18 rfl), T_Holding, 2, rfl⟩
theorem cf_S_221 : gCv "ShipSets" 221 y_Current_offer Y_Current_offer 8 := ⟨⟨rfl, (gT_in2 23 rfl), (gT_in0 5 rfl), by decide +kernel, by decide +kernel, Or.inl (gT_in2 20 rfl)⟩, (gT_in2 21 rfl), (gT_in2 22 rfl), T_Current, 2, rfl⟩
theorem cf_S_228 : gCv "ShipSets" 228 y_Current_commonValue Y_Current_commonValue 8 := ⟨⟨rfl, (gT_in2 27 rfl), (gT_in0 5 rfl), by decide +kernel, by decide +kernel, Or.inl (gT_in2 24 rfl)⟩, (gT_in2 25 rfl), (gT_in2 26 rfl), T_Current, 2, rfl⟩
theorem cf_S_232 : gCv "ShipSets" 232 y_S_settledValue Y_S_settledValue 0 := ⟨⟨rfl, (gT_in2 36 rfl), (gT_in0 1 rfl), by decide +kernel, by decide +kernel, Or.inl (gT_in2 34 rfl)⟩, (gT_in2 35 rfl), (gT_ins 11 rfl), T_S, 7, rfl⟩
theorem cf_S_236 : gCv "ShipSets" 236 y_Holding_hasSettling Y_Holding_hasSettling 5 := ⟨⟨rfl, (gT_in2 41 rfl), (gT_in0 18 rfl), by decide +kernel, by decide +kernel, Or.inl (gT_in2 38 rfl)⟩, (gT_in2 39 rfl), (gT_in2 40 rfl), T_Holding, 2, rfl⟩
theorem cf_S_239 : gCv "ShipSets" 239 y_Settling_isMadeFor Y_Settling_isMadeFor 6 := ⟨⟨rfl, (gT_in2 45 rfl), (gT_in0 19 rfl), by decide +kernel, by decide +kernel, Or.inl (gT_in2 42 rfl)⟩, (gT_in2 43 rfl), (gT_in2 44 rfl), T_Settling, 3, rfl⟩
theorem cf_S_246 : gCv "ShipSets" 246 y_Current_valueBy Y_Current_valueBy 8 := ⟨⟨rfl, (gT_in2 49 rfl), (gT_in0 5 rfl), by decide +kernel, by decide +kernel, Or.inl (gT_in2 46 rfl)⟩, (gT_in2 47 rfl), (gT_in2 48 rfl), T_Current, 2, rfl⟩
theorem cf_S_250 : gCv "ShipSets" 250 y_S_isInConflict Y_S_isInConflict 0 := ⟨⟨rfl, (gT_in2 2 rfl), (gT_in0 1 rfl), by decide +kernel, by decide +kernel, Or.inl (gT_in2 0 rfl)⟩, (gT_in2 1 rfl), (gT_ins 8 rfl), T_S, 7, rfl⟩
theorem cf_Blocks_25 : gCv "ShipSets$Blocks" 25 y_Blocks_firstFrom Y_Blocks_firstFrom 2 := ⟨⟨rfl, (gT_in2 137 rfl), (gT_in0 8 rfl), by decide +kernel, by decide +kernel, Or.inl (gT_in2 134 rfl)⟩, (gT_in2 135 rfl), (gT_in2 136 rfl), T_Blocks, 4, rfl⟩
theorem cf_Clock_22 : gCv "ShipSets$Clock" 22 y_Clock_lineFor Y_Clock_lineFor 3 := ⟨⟨rfl, (gT_in3 46 rfl), (gT_in0 9 rfl), by decide +kernel, by decide +kernel, Or.inl (gT_in3 44 rfl)⟩, (gT_in3 45 rfl), (gT_ins 14 rfl), T_Clock, 3, rfl⟩
theorem cf_Clock_26 : gCs "ShipSets$Clock" 26 y_Clock_greatestDivisor Y_Clock_greatestDivisor := ⟨⟨rfl, (gT_in3 49 rfl), (gT_in0 9 rfl), by decide +kernel, by decide +kernel, Or.inl (gT_in3 47 rfl)⟩, (gT_in3 48 rfl)⟩
theorem cf_Current_19 : gCs "ShipSets$Current" 19 y_Arrays_fill Y_Arrays_fill := ⟨⟨rfl, (gT_in2 15 rfl), (gT_in0 12 rfl), by decide +kernel, by decide +kernel, Or.inl (gT_in2 13 rfl)⟩, (gT_in2 14 rfl)⟩
theorem cf_Current_38 : gCv "ShipSets$Current" 38 y_Current_has Y_Current_has 8 := ⟨⟨rfl, (gT_in2 32 rfl), (gT_in0 5 rfl), by decide +kernel, by decide +kernel, Or.inl (gT_in2 29 rfl)⟩, (gT_in2 30 rfl), (gT_in2 31 rfl), T_Current, 2, rfl⟩
theorem cf_Settling_24 : gCs "ShipSets$Settling" 24 y_Arrays_copyOf3 Y_Arrays_copyOf3 := ⟨⟨rfl, (gT_in2 89 rfl), (gT_in0 12 rfl), by decide +kernel, by decide +kernel, Or.inl (gT_in2 87 rfl)⟩, (gT_in2 88 rfl)⟩
theorem cf_ShipSet_9 : gCi "ShipSets$ShipSet" 9 y_Holding_init Y_Holding_init := ⟨⟨rfl, (gT_in1 123 rfl), (gT_in0 18 rfl), by decide +kernel, by decide +kernel, Or.inr ⟨"ShipSets", by decide +kernel⟩⟩, (gT_in1 122 rfl), rfl, rfl⟩
theorem cf_Teller_11 : gCi "ShipSets$Teller" 11 y_AL_init Y_AL_init := ⟨⟨rfl, (gT_in0 32 rfl), (gT_in0 4 rfl), by decide +kernel, by decide +kernel, Or.inl (gT_in0 90 rfl)⟩, (gT_in0 31 rfl), rfl, rfl⟩
theorem cf_Teller_20 : gCi "ShipSets$Teller" 20 y_Blocks_init Y_Blocks_init := ⟨⟨rfl, (gT_in0 94 rfl), (gT_in0 8 rfl), by decide +kernel, by decide +kernel, Or.inr ⟨"ShipSets", by decide +kernel⟩⟩, (gT_in0 93 rfl), rfl, rfl⟩
theorem cf_Teller_27 : gCi "ShipSets$Teller" 27 y_Clock_init Y_Clock_init := ⟨⟨rfl, (gT_in0 107 rfl), (gT_in0 9 rfl), by decide +kernel, by decide +kernel, Or.inr ⟨"ShipSets", by decide +kernel⟩⟩, (gT_in0 106 rfl), rfl, rfl⟩
theorem cf_Teller_36 : gCv "ShipSets$Teller" 36 y_AL_size Y_AL_size 9 := ⟨⟨rfl, (gT_in0 83 rfl), (gT_in0 4 rfl), by decide +kernel, by decide +kernel, Or.inl (gT_in1 73 rfl)⟩, (gT_in0 81 rfl), (gT_in0 82 rfl), T_AL, 3, rfl⟩
theorem cf_Teller_40 : gCv "ShipSets$Teller" 40 y_AL_get Y_AL_get 9 := ⟨⟨rfl, (gT_in1 37 rfl), (gT_in0 4 rfl), by decide +kernel, by decide +kernel, Or.inl (gT_in1 74 rfl)⟩, (gT_in1 35 rfl), (gT_in1 36 rfl), T_AL, 3, rfl⟩
theorem cf_Teller_50 : gCv "ShipSets$Teller" 50 y_Teller_placeOf Y_Teller_placeOf 1 := ⟨⟨rfl, (gT_in1 72 rfl), (gT_in0 7 rfl), by decide +kernel, by decide +kernel, Or.inl (gT_in1 70 rfl)⟩, (gT_in1 71 rfl), (gT_ins 4 rfl), T_Teller, 4, rfl⟩
theorem cf_Teller_54 : gCv "ShipSets$Teller" 54 y_AL_add3 Y_AL_add3 9 := ⟨⟨rfl, (gT_in1 106 rfl), (gT_in0 4 rfl), by decide +kernel, by decide +kernel, Or.inl (gT_in1 103 rfl)⟩, (gT_in1 104 rfl), (gT_in1 105 rfl), T_AL, 3, rfl⟩
theorem cf_Teller_68 : gCv "ShipSets$Teller" 68 y_Teller_toldWith Y_Teller_toldWith 1 := ⟨⟨rfl, (gT_in1 69 rfl), (gT_in0 7 rfl), by decide +kernel, by decide +kernel, Or.inl (gT_in2 147 rfl)⟩, (gT_in1 67 rfl), (gT_in1 68 rfl), T_Teller, 4, rfl⟩
theorem cf_Teller_72 : gCv "ShipSets$Teller" 72 y_AL_isEmpty Y_AL_isEmpty 9 := ⟨⟨rfl, (gT_in3 9 rfl), (gT_in0 4 rfl), by decide +kernel, by decide +kernel, Or.inl (gT_in3 6 rfl)⟩, (gT_in3 7 rfl), (gT_in3 8 rfl), T_AL, 3, rfl⟩
theorem cf_Teller_76 : gCv "ShipSets$Teller" 76 y_Teller_lastLostFrom Y_Teller_lastLostFrom 1 := ⟨⟨rfl, (gT_in3 12 rfl), (gT_in0 7 rfl), by decide +kernel, by decide +kernel, Or.inl (gT_in3 10 rfl)⟩, (gT_in3 11 rfl), (gT_ins 13 rfl), T_Teller, 4, rfl⟩
theorem cf_Teller_79 : gCv "ShipSets$Teller" 79 y_Blocks_lastAround Y_Blocks_lastAround 2 := ⟨⟨rfl, (gT_in3 18 rfl), (gT_in0 8 rfl), by decide +kernel, by decide +kernel, Or.inl (gT_in3 15 rfl)⟩, (gT_in3 16 rfl), (gT_in3 17 rfl), T_Blocks, 4, rfl⟩
theorem cf_Teller_88 : gCv "ShipSets$Teller" 88 y_Blocks_firstFrom Y_Blocks_firstFrom 2 := ⟨⟨rfl, (gT_in2 137 rfl), (gT_in0 8 rfl), by decide +kernel, by decide +kernel, Or.inl (gT_in3 13 rfl)⟩, (gT_in2 135 rfl), (gT_in2 136 rfl), T_Blocks, 4, rfl⟩
theorem cf_Law_9 : gCi "ShipSetsLaw" 9 y_S_init Y_S_init := ⟨⟨rfl, (gT_in0 24 rfl), (gT_in0 1 rfl), by decide +kernel, by decide +kernel, Or.inl (gT_in0 22 rfl)⟩, (gT_in0 23 rfl), rfl, rfl⟩
theorem cf_Law_12 : gCi "ShipSetsLaw" 12 y_M_init Y_M_init := ⟨⟨rfl, (gT_in3 60 rfl), (gT_in0 6 rfl), by decide +kernel, by decide +kernel, Or.inl (gT_in3 58 rfl)⟩, (gT_in3 59 rfl), rfl, rfl⟩
theorem cf_Law_13 : gCv "ShipSetsLaw" 13 y_S_teller Y_S_teller 0 := ⟨⟨rfl, (gT_in0 79 rfl), (gT_in0 1 rfl), by decide +kernel, by decide +kernel, Or.inl (gT_in0 76 rfl)⟩, (gT_in0 77 rfl), (gT_in0 78 rfl), T_S, 7, rfl⟩
theorem cf_Law_17 : gCv "ShipSetsLaw" 17 y_M_teller Y_M_teller 10 := ⟨⟨rfl, (gT_in3 120 rfl), (gT_in0 6 rfl), by decide +kernel, by decide +kernel, Or.inl (gT_in3 117 rfl)⟩, (gT_in3 118 rfl), (gT_in3 119 rfl), T_M, 27, rfl⟩
theorem cf_Law_20 : gCv "ShipSetsLaw" 20 y_S_tell Y_S_tell 0 := ⟨⟨rfl, (gT_in1 30 rfl), (gT_in0 1 rfl), by decide +kernel, by decide +kernel, Or.inl (gT_in1 27 rfl)⟩, (gT_in1 28 rfl), (gT_in1 29 rfl), T_S, 7, rfl⟩
theorem cf_Law_24 : gCv "ShipSetsLaw" 24 y_M_tell Y_M_tell 10 := ⟨⟨rfl, (gT_in3 124 rfl), (gT_in0 6 rfl), by decide +kernel, by decide +kernel, Or.inl (gT_in3 121 rfl)⟩, (gT_in3 122 rfl), (gT_in3 123 rfl), T_M, 27, rfl⟩
theorem cf_Law_25 : gCv "ShipSetsLaw" 25 y_S_set Y_S_set 0 := ⟨⟨rfl, (gT_in1 114 rfl), (gT_in0 1 rfl), by decide +kernel, by decide +kernel, Or.inl (gT_in1 111 rfl)⟩, (gT_in1 112 rfl), (gT_in1 113 rfl), T_S, 7, rfl⟩
theorem cf_Law_29 : gCv "ShipSetsLaw" 29 y_M_set Y_M_set 10 := ⟨⟨rfl, (gT_in3 147 rfl), (gT_in0 6 rfl), by decide +kernel, by decide +kernel, Or.inl (gT_in3 144 rfl)⟩, (gT_in3 145 rfl), (gT_in3 146 rfl), T_M, 27, rfl⟩
theorem cf_Law_30 : gCv "ShipSetsLaw" 30 y_S_join Y_S_join 0 := ⟨⟨rfl, (gT_in1 138 rfl), (gT_in0 1 rfl), by decide +kernel, by decide +kernel, Or.inl (gT_in1 135 rfl)⟩, (gT_in1 136 rfl), (gT_in1 137 rfl), T_S, 7, rfl⟩
theorem cf_Law_34 : gCv "ShipSetsLaw" 34 y_M_join Y_M_join 10 := ⟨⟨rfl, (gT_in4 21 rfl), (gT_in0 6 rfl), by decide +kernel, by decide +kernel, Or.inl (gT_in4 18 rfl)⟩, (gT_in4 19 rfl), (gT_in4 20 rfl), T_M, 27, rfl⟩
theorem cf_Law_35 : gCv "ShipSetsLaw" 35 y_S_equal Y_S_equal 0 := ⟨⟨rfl, (gT_in2 57 rfl), (gT_in0 1 rfl), by decide +kernel, by decide +kernel, Or.inl (gT_in2 54 rfl)⟩, (gT_in2 55 rfl), (gT_in2 56 rfl), T_S, 7, rfl⟩
theorem cf_Law_39 : gCv "ShipSetsLaw" 39 y_M_equal Y_M_equal 10 := ⟨⟨rfl, (gT_in4 29 rfl), (gT_in0 6 rfl), by decide +kernel, by decide +kernel, Or.inl (gT_in4 26 rfl)⟩, (gT_in4 27 rfl), (gT_in4 28 rfl), T_M, 27, rfl⟩
theorem cf_Law_40 : gCv "ShipSetsLaw" 40 y_S_known Y_S_known 0 := ⟨⟨rfl, (gT_in2 65 rfl), (gT_in0 1 rfl), by decide +kernel, by decide +kernel, Or.inl (gT_in2 62 rfl)⟩, (gT_in2 63 rfl), (gT_in2 64 rfl), T_S, 7, rfl⟩
theorem cf_Law_44 : gCv "ShipSetsLaw" 44 y_M_known Y_M_known 10 := ⟨⟨rfl, (gT_in4 1 rfl), (gT_in0 6 rfl), by decide +kernel, by decide +kernel, Or.inl (gT_in3 148 rfl)⟩, (gT_in3 149 rfl), (gT_in4 0 rfl), T_M, 27, rfl⟩
theorem cf_Law_45 : gCv "ShipSetsLaw" 45 y_S_conflict Y_S_conflict 0 := ⟨⟨rfl, (gT_in2 69 rfl), (gT_in0 1 rfl), by decide +kernel, by decide +kernel, Or.inl (gT_in2 66 rfl)⟩, (gT_in2 67 rfl), (gT_in2 68 rfl), T_S, 7, rfl⟩
theorem cf_Law_49 : gCv "ShipSetsLaw" 49 y_M_conflict Y_M_conflict 10 := ⟨⟨rfl, (gT_in4 33 rfl), (gT_in0 6 rfl), by decide +kernel, by decide +kernel, Or.inl (gT_in4 30 rfl)⟩, (gT_in4 31 rfl), (gT_in4 32 rfl), T_M, 27, rfl⟩
theorem cf_Law_50 : gCv "ShipSetsLaw" 50 y_S_settle Y_S_settle 0 := ⟨⟨rfl, (gT_in2 76 rfl), (gT_in0 1 rfl), by decide +kernel, by decide +kernel, Or.inl (gT_in2 73 rfl)⟩, (gT_in2 74 rfl), (gT_in2 75 rfl), T_S, 7, rfl⟩
theorem cf_Law_54 : gCv "ShipSetsLaw" 54 y_M_settle Y_M_settle 10 := ⟨⟨rfl, (gT_in4 37 rfl), (gT_in0 6 rfl), by decide +kernel, by decide +kernel, Or.inl (gT_in4 34 rfl)⟩, (gT_in4 35 rfl), (gT_in4 36 rfl), T_M, 27, rfl⟩
theorem cf_Law_55 : gCv "ShipSetsLaw" 55 y_S_batch Y_S_batch 0 := ⟨⟨rfl, (gT_in2 105 rfl), (gT_in0 1 rfl), by decide +kernel, by decide +kernel, Or.inl (gT_in2 102 rfl)⟩, (gT_in2 103 rfl), (gT_in2 104 rfl), T_S, 7, rfl⟩
theorem cf_Law_59 : gCv "ShipSetsLaw" 59 y_M_batch Y_M_batch 10 := ⟨⟨rfl, (gT_in4 41 rfl), (gT_in0 6 rfl), by decide +kernel, by decide +kernel, Or.inl (gT_in4 38 rfl)⟩, (gT_in4 39 rfl), (gT_in4 40 rfl), T_M, 27, rfl⟩
theorem cf_Law_60 : gCv "ShipSetsLaw" 60 y_S_endBatch Y_S_endBatch 0 := ⟨⟨rfl, (gT_in2 114 rfl), (gT_in0 1 rfl), by decide +kernel, by decide +kernel, Or.inl (gT_in2 111 rfl)⟩, (gT_in2 112 rfl), (gT_in2 113 rfl), T_S, 7, rfl⟩
theorem cf_Law_63 : gCv "ShipSetsLaw" 63 y_M_endBatch Y_M_endBatch 10 := ⟨⟨rfl, (gT_in4 45 rfl), (gT_in0 6 rfl), by decide +kernel, by decide +kernel, Or.inl (gT_in4 42 rfl)⟩, (gT_in4 43 rfl), (gT_in4 44 rfl), T_M, 27, rfl⟩
theorem cf_Law_64 : gCv "ShipSetsLaw" 64 y_S_right Y_S_right 0 := ⟨⟨rfl, (gT_in2 118 rfl), (gT_in0 1 rfl), by decide +kernel, by decide +kernel, Or.inl (gT_in2 115 rfl)⟩, (gT_in2 116 rfl), (gT_in2 117 rfl), T_S, 7, rfl⟩
theorem cf_Law_68 : gCv "ShipSetsLaw" 68 y_M_right Y_M_right 10 := ⟨⟨rfl, (gT_in4 49 rfl), (gT_in0 6 rfl), by decide +kernel, by decide +kernel, Or.inl (gT_in4 46 rfl)⟩, (gT_in4 47 rfl), (gT_in4 48 rfl), T_M, 27, rfl⟩
theorem cf_Law_69 : gCv "ShipSetsLaw" 69 y_S_seen Y_S_seen 0 := ⟨⟨rfl, (gT_in2 125 rfl), (gT_in0 1 rfl), by decide +kernel, by decide +kernel, Or.inl (gT_in2 122 rfl)⟩, (gT_in2 123 rfl), (gT_in2 124 rfl), T_S, 7, rfl⟩
theorem cf_Law_72 : gCv "ShipSetsLaw" 72 y_M_seen Y_M_seen 10 := ⟨⟨rfl, (gT_in4 54 rfl), (gT_in0 6 rfl), by decide +kernel, by decide +kernel, Or.inl (gT_in4 51 rfl)⟩, (gT_in4 52 rfl), (gT_in4 53 rfl), T_M, 27, rfl⟩
theorem cf_Law_73 : gCv "ShipSetsLaw" 73 y_S_block Y_S_block 0 := ⟨⟨rfl, (gT_in2 129 rfl), (gT_in0 1 rfl), by decide +kernel, by decide +kernel, Or.inl (gT_in2 126 rfl)⟩, (gT_in2 127 rfl), (gT_in2 128 rfl), T_S, 7, rfl⟩
theorem cf_Law_77 : gCv "ShipSetsLaw" 77 y_M_block Y_M_block 10 := ⟨⟨rfl, (gT_in4 58 rfl), (gT_in0 6 rfl), by decide +kernel, by decide +kernel, Or.inl (gT_in4 55 rfl)⟩, (gT_in4 56 rfl), (gT_in4 57 rfl), T_M, 27, rfl⟩
theorem cf_Law_78 : gCv "ShipSetsLaw" 78 y_S_number Y_S_number 0 := ⟨⟨rfl, (gT_in2 142 rfl), (gT_in0 1 rfl), by decide +kernel, by decide +kernel, Or.inl (gT_in2 139 rfl)⟩, (gT_in2 140 rfl), (gT_in2 141 rfl), T_S, 7, rfl⟩
theorem cf_Law_81 : gCv "ShipSetsLaw" 81 y_M_number Y_M_number 10 := ⟨⟨rfl, (gT_in4 65 rfl), (gT_in0 6 rfl), by decide +kernel, by decide +kernel, Or.inl (gT_in4 62 rfl)⟩, (gT_in4 63 rfl), (gT_in4 64 rfl), T_M, 27, rfl⟩
theorem cf_Law_82 : gCv "ShipSetsLaw" 82 y_S_lost Y_S_lost 0 := ⟨⟨rfl, (gT_in3 1 rfl), (gT_in0 1 rfl), by decide +kernel, by decide +kernel, Or.inl (gT_in2 148 rfl)⟩, (gT_in2 149 rfl), (gT_in3 0 rfl), T_S, 7, rfl⟩
theorem cf_Law_85 : gCv "ShipSetsLaw" 85 y_M_lost Y_M_lost 10 := ⟨⟨rfl, (gT_in4 69 rfl), (gT_in0 6 rfl), by decide +kernel, by decide +kernel, Or.inl (gT_in4 66 rfl)⟩, (gT_in4 67 rfl), (gT_in4 68 rfl), T_M, 27, rfl⟩
theorem cf_Law_86 : gCv "ShipSetsLaw" 86 y_S_close Y_S_close 0 := ⟨⟨rfl, (gT_in3 23 rfl), (gT_in0 1 rfl), by decide +kernel, by decide +kernel, Or.inl (gT_in3 20 rfl)⟩, (gT_in3 21 rfl), (gT_in3 22 rfl), T_S, 7, rfl⟩
theorem cf_Law_89 : gCv "ShipSetsLaw" 89 y_M_close Y_M_close 10 := ⟨⟨rfl, (gT_in3 143 rfl), (gT_in0 6 rfl), by decide +kernel, by decide +kernel, Or.inl (gT_in3 140 rfl)⟩, (gT_in3 141 rfl), (gT_in3 142 rfl), T_M, 27, rfl⟩
theorem cf_Law_90 : gCv "ShipSetsLaw" 90 y_S_mark Y_S_mark 0 := ⟨⟨rfl, (gT_in3 27 rfl), (gT_in0 1 rfl), by decide +kernel, by decide +kernel, Or.inl (gT_in3 24 rfl)⟩, (gT_in3 25 rfl), (gT_in3 26 rfl), T_S, 7, rfl⟩
theorem cf_Law_94 : gCv "ShipSetsLaw" 94 y_M_mark Y_M_mark 10 := ⟨⟨rfl, (gT_in4 73 rfl), (gT_in0 6 rfl), by decide +kernel, by decide +kernel, Or.inl (gT_in4 70 rfl)⟩, (gT_in4 71 rfl), (gT_in4 72 rfl), T_M, 27, rfl⟩
theorem cf_Law_95 : gCv "ShipSetsLaw" 95 y_S_corrected Y_S_corrected 0 := ⟨⟨rfl, (gT_in3 38 rfl), (gT_in0 1 rfl), by decide +kernel, by decide +kernel, Or.inl (gT_in3 35 rfl)⟩, (gT_in3 36 rfl), (gT_in3 37 rfl), T_S, 7, rfl⟩
theorem cf_Law_99 : gCv "ShipSetsLaw" 99 y_M_corrected Y_M_corrected 10 := ⟨⟨rfl, (gT_in4 77 rfl), (gT_in0 6 rfl), by decide +kernel, by decide +kernel, Or.inl (gT_in4 74 rfl)⟩, (gT_in4 75 rfl), (gT_in4 76 rfl), T_M, 27, rfl⟩
theorem cf_M_92 : gCv "ShipSetsModel" 92 y_M_isTeller Y_M_isTeller 10 := ⟨⟨rfl, (gT_in3 127 rfl), (gT_in0 6 rfl), by decide +kernel, by decide +kernel, Or.inl (gT_in3 125 rfl)⟩, (gT_in3 126 rfl), (gT_ins 15 rfl), T_M, 27, rfl⟩
theorem cf_M_98 : gCs "ShipSetsModel" 98 y_M_isIn Y_M_isIn := ⟨⟨rfl, (gT_in3 131 rfl), (gT_in0 6 rfl), by decide +kernel, by decide +kernel, Or.inl (gT_in3 129 rfl)⟩, (gT_in3 130 rfl)⟩
theorem cf_M_112 : gCv "ShipSetsModel" 112 y_M_told Y_M_told 10 := ⟨⟨rfl, (gT_in3 139 rfl), (gT_in0 6 rfl), by decide +kernel, by decide +kernel, Or.inl (gT_in3 137 rfl)⟩, (gT_in3 138 rfl), (gT_ins 16 rfl), T_M, 27, rfl⟩
theorem cf_M_116 : gCv "ShipSetsModel" 116 y_M_isOf Y_M_isOf 10 := ⟨⟨rfl, (gT_in4 13 rfl), (gT_in0 6 rfl), by decide +kernel, by decide +kernel, Or.inl (gT_in4 11 rfl)⟩, (gT_in4 12 rfl), (gT_ins 20 rfl), T_M, 27, rfl⟩
theorem cf_M_120 : gCv "ShipSetsModel" 120 y_M_findCurrent Y_M_findCurrent 10 := ⟨⟨rfl, (gT_in4 10 rfl), (gT_in0 6 rfl), by decide +kernel, by decide +kernel, Or.inl (gT_in4 8 rfl)⟩, (gT_in4 9 rfl), (gT_ins 19 rfl), T_M, 27, rfl⟩
theorem cf_M_129 : gCv "ShipSetsModel" 129 y_M_counts Y_M_counts 10 := ⟨⟨rfl, (gT_in4 17 rfl), (gT_in0 6 rfl), by decide +kernel, by decide +kernel, Or.inl (gT_in4 15 rfl)⟩, (gT_in4 16 rfl), (gT_ins 21 rfl), T_M, 27, rfl⟩
theorem cf_M_133 : gCv "ShipSetsModel" 133 y_M_isSet Y_M_isSet 10 := ⟨⟨rfl, (gT_in4 4 rfl), (gT_in0 6 rfl), by decide +kernel, by decide +kernel, Or.inl (gT_in4 2 rfl)⟩, (gT_in4 3 rfl), (gT_ins 17 rfl), T_M, 27, rfl⟩
theorem cf_M_136 : gCv "ShipSetsModel" 136 y_M_valueOf Y_M_valueOf 10 := ⟨⟨rfl, (gT_in4 7 rfl), (gT_in0 6 rfl), by decide +kernel, by decide +kernel, Or.inl (gT_in4 5 rfl)⟩, (gT_in4 6 rfl), (gT_ins 18 rfl), T_M, 27, rfl⟩
theorem cf_M_141 : gCv "ShipSetsModel" 141 y_M_isConflict Y_M_isConflict 10 := ⟨⟨rfl, (gT_in4 24 rfl), (gT_in0 6 rfl), by decide +kernel, by decide +kernel, Or.inl (gT_in4 22 rfl)⟩, (gT_in4 23 rfl), (gT_ins 22 rfl), T_M, 27, rfl⟩
theorem cf_M_147 : gCv "ShipSetsModel" 147 y_M_inBlock Y_M_inBlock 10 := ⟨⟨rfl, (gT_in4 61 rfl), (gT_in0 6 rfl), by decide +kernel, by decide +kernel, Or.inl (gT_in4 59 rfl)⟩, (gT_in4 60 rfl), (gT_ins 23 rfl), T_M, 27, rfl⟩
theorem cf_AbstractList_1 : gCi "java/util/AbstractList" 1 y_AbstractCollection_init Y_AbstractCollection_init := ⟨⟨rfl, (gT_in0 38 rfl), (gT_in0 2 rfl), by decide +kernel, by decide +kernel, Or.inl (gT_in0 36 rfl)⟩, (gT_in0 37 rfl), rfl, rfl⟩
theorem cf_AL_1 : gCi "java/util/ArrayList" 1 y_AbstractList_init Y_AbstractList_init := ⟨⟨rfl, (gT_in0 35 rfl), (gT_in0 3 rfl), by decide +kernel, by decide +kernel, Or.inl (gT_in0 33 rfl)⟩, (gT_in0 34 rfl), rfl, rfl⟩
theorem cf_AL_66 : gCs "java/util/ArrayList" 66 y_Arrays_copyOf Y_Arrays_copyOf := ⟨⟨rfl, (gT_in0 148 rfl), (gT_in0 12 rfl), by decide +kernel, by decide +kernel, Or.inl (gT_in0 146 rfl)⟩, (gT_in0 147 rfl)⟩
theorem cf_AL_69 : gCv "java/util/ArrayList" 69 y_AL_grow2 Y_AL_grow2 9 := ⟨⟨rfl, (gT_in0 135 rfl), (gT_in0 4 rfl), by decide +kernel, by decide +kernel, Or.inl (gT_in0 133 rfl)⟩, (gT_in0 134 rfl), (gT_ins 2 rfl), T_AL, 3, rfl⟩
theorem cf_AL_73 : gCs "java/util/ArrayList" 73 y_ArraysSupport_newLength Y_ArraysSupport_newLength := ⟨⟨rfl, (gT_in0 138 rfl), (gT_in0 10 rfl), by decide +kernel, by decide +kernel, Or.inl (gT_in0 136 rfl)⟩, (gT_in0 137 rfl)⟩
theorem cf_AL_118 : gCs "java/util/ArrayList" 118 y_Objects_checkIndex Y_Objects_checkIndex := ⟨⟨rfl, (gT_in1 40 rfl), (gT_in0 14 rfl), by decide +kernel, by decide +kernel, Or.inl (gT_in1 38 rfl)⟩, (gT_in1 39 rfl)⟩
theorem cf_AL_123 : gCv "java/util/ArrayList" 123 y_AL_elementData Y_AL_elementData 9 := ⟨⟨rfl, (gT_in1 47 rfl), (gT_in0 4 rfl), by decide +kernel, by decide +kernel, Or.inl (gT_in1 44 rfl)⟩, (gT_in1 45 rfl), (gT_in1 46 rfl), T_AL, 3, rfl⟩
theorem cf_AL_129 : gCv "java/util/ArrayList" 129 y_AL_grow Y_AL_grow 9 := ⟨⟨rfl, (gT_in0 132 rfl), (gT_in0 4 rfl), by decide +kernel, by decide +kernel, Or.inl (gT_in0 130 rfl)⟩, (gT_in0 131 rfl), (gT_ins 1 rfl), T_AL, 3, rfl⟩
theorem cf_AL_131 : gCv "java/util/ArrayList" 131 y_AL_add2 Y_AL_add2 9 := ⟨⟨rfl, (gT_in0 129 rfl), (gT_in0 4 rfl), by decide +kernel, by decide +kernel, Or.inl (gT_in0 127 rfl)⟩, (gT_in0 128 rfl), (gT_ins 0 rfl), T_AL, 3, rfl⟩
theorem cf_AL_135 : gCv "java/util/ArrayList" 135 y_AL_rangeCheckForAdd Y_AL_rangeCheckForAdd 9 := ⟨⟨rfl, (gT_in1 109 rfl), (gT_in0 4 rfl), by decide +kernel, by decide +kernel, Or.inl (gT_in1 107 rfl)⟩, (gT_in1 108 rfl), (gT_ins 5 rfl), T_AL, 3, rfl⟩
theorem cf_Arrays_300 : gCs "java/util/Arrays" 300 y_Arrays_copyOf2 Y_Arrays_copyOf2 := ⟨⟨rfl, (gT_in1 16 rfl), (gT_in0 12 rfl), by decide +kernel, by decide +kernel, Or.inl (gT_in1 14 rfl)⟩, (gT_in1 15 rfl)⟩
theorem cf_Objects_105 : gCs "java/util/Objects" 105 y_Preconditions_checkIndex Y_Preconditions_checkIndex := ⟨⟨rfl, (gT_in1 43 rfl), (gT_in0 15 rfl), by decide +kernel, by decide +kernel, Or.inl (gT_in1 41 rfl)⟩, (gT_in1 42 rfl)⟩
theorem cf_ArraysSupport_201 : gCs "jdk/internal/util/ArraysSupport" 201 y_ArraysSupport_hugeLength Y_ArraysSupport_hugeLength := ⟨⟨rfl, (gT_in0 145 rfl), (gT_in0 10 rfl), by decide +kernel, by decide +kernel, Or.inl (gT_in0 143 rfl)⟩, (gT_in0 144 rfl)⟩
theorem ac_Holding_34 : gArr "ShipSets$Holding" 34 := ⟨(gT_in2 110 rfl), (gT_in1 24 rfl), (gT_in1 23 rfl), (gT_in0 13 rfl)⟩
theorem ac_AL_112 : gArr "java/util/ArrayList" 112 := ⟨(gT_in1 110 rfl), (gT_in1 24 rfl), (gT_in1 23 rfl), (gT_in0 13 rfl)⟩
theorem ac_Arrays_150 : gArr "java/util/Arrays" 150 := ⟨(gT_in1 22 rfl), (gT_in1 24 rfl), (gT_in1 23 rfl), (gT_in0 13 rfl)⟩
theorem cl_Arrays_316 : gCln "java/util/Arrays" 316 := ⟨(gT_in2 90 rfl), (gT_in2 91 rfl), (gT_in2 92 rfl), (gT_in2 93 rfl), (gT_in2 94 rfl), by decide +kernel⟩
theorem gInto_T : gInto [7] "ShipSets$Telling" := by
  intro ci hci
  rcases List.mem_singleton.mp hci with rfl
  exact ⟨_, _, _, rfl, Or.inl rfl⟩
theorem gInto_O : gInto gObs "java/lang/Object" := by
  intro ci hci
  have h : ci = 1 ∨ ci = 4 ∨ ci = 6 ∨ ci = 7 := by simpa [gObs] using hci
  rcases h with rfl | rfl | rfl | rfl <;> exact ⟨_, _, _, rfl, Or.inr (by decide +kernel)⟩
end
section
-- AbstractCollection_init AbstractList_init AL_init Current_init S_init M_init AL_size Blocks_init Clock_init
theorem d_AbstractCollection_init_0 : decode b_AbstractCollection_init 0 = .ok (.aload_n 0, 1) := by decide +kernel
theorem d_AbstractCollection_init_1 : decode b_AbstractCollection_init 1 = .ok (.invokespecial 1, 3) := by decide +kernel
theorem d_AbstractCollection_init_4 : decode b_AbstractCollection_init 4 = .ok (.return_, 1) := by decide +kernel
def F_AbstractCollection_init (b : Nat) (mm : gM) : Option (Unit × gM) :=
  some ((), mm)
set_option maxHeartbeats 8000000 in
set_option maxRecDepth 100000 in
theorem w_AbstractCollection_init {l : Launch} {E : gD} {n0 s0 : Nat} {b : Nat} {r : Unit} {mm res : gM} (h : F_AbstractCollection_init b mm = some (r, res)) : xX l E Y_AbstractCollection_init n0 s0 none res 0 [(0, .inr (.inr (some b)))] [] mm := by
  unfold F_AbstractCollection_init at h
  refine x_aloadn 0 0 d_AbstractCollection_init_0 rfl rfl ?_
  refine x_objinit 1 rfl (gT_in0 39 rfl) (gT_in0 26 rfl) (gT_in0 27 rfl) (by decide) (by decide) d_AbstractCollection_init_1 ?_
  cases h
  exact x_return 4 rfl d_AbstractCollection_init_4
theorem k_AbstractCollection_init {b : Nat} {r : Unit} {mm res : gM} (h : F_AbstractCollection_init b mm = some (r, res)) : ∀ (l : Launch) (E : gD), gLe mm res ∧ gMet l E Y_AbstractCollection_init y_AbstractCollection_init [.inr (.inr (some b))] none mm res :=
  fun l E => ⟨(w_AbstractCollection_init (l := l) (E := E) (n0 := 0) (s0 := 0) h).1, x_met (by decide +kernel) rfl rfl rfl (Nat.le_of_ble_eq_true rfl) (w_AbstractCollection_init h)⟩
theorem d_AbstractList_init_0 : decode b_AbstractList_init 0 = .ok (.aload_n 0, 1) := by decide +kernel
theorem d_AbstractList_init_1 : decode b_AbstractList_init 1 = .ok (.invokespecial 1, 3) := by decide +kernel
theorem d_AbstractList_init_4 : decode b_AbstractList_init 4 = .ok (.aload_n 0, 1) := by decide +kernel
theorem d_AbstractList_init_5 : decode b_AbstractList_init 5 = .ok (.iconst 0, 1) := by decide +kernel
theorem d_AbstractList_init_6 : decode b_AbstractList_init 6 = .ok (.putfield 7, 3) := by decide +kernel
theorem d_AbstractList_init_9 : decode b_AbstractList_init 9 = .ok (.return_, 1) := by decide +kernel
def F_AbstractList_init (b : Nat) (mm : gM) : Option (Unit × gM) :=
  gb2 (F_AbstractCollection_init b  mm) fun v1 mm2 =>
  gb1 (gpV 9 2 (some b) (.int (0 : Int32)) mm2) fun mm6 =>
  some ((), mm6)
set_option maxHeartbeats 8000000 in
set_option maxRecDepth 100000 in
theorem w_AbstractList_init {l : Launch} {E : gD} {n0 s0 : Nat} {b : Nat} {r : Unit} {mm res : gM} (h : F_AbstractList_init b mm = some (r, res)) : xX l E Y_AbstractList_init n0 s0 none res 0 [(0, .inr (.inr (some b)))] [] mm := by
  unfold F_AbstractList_init at h
  refine x_aloadn 0 0 d_AbstractList_init_0 rfl rfl ?_
  replace h := gb2_elim h; obtain ⟨v1, mm2, h3, h⟩ := h
  refine x_callI 1 0 (as := []) (st' := []) (k_AbstractCollection_init h3) cf_AbstractList_1 ⟨rfl, by decide +kernel, by decide, by decide, Nat.le_of_ble_eq_true rfl⟩ rfl d_AbstractList_init_1 ?_
  refine x_aloadn 4 0 d_AbstractList_init_4 rfl rfl ?_
  refine x_iconst 5 d_AbstractList_init_5 (v := (0 : Int32)) (by decide +kernel) ?_
  replace h := gb1_elim h; obtain ⟨mm6, h7, h⟩ := h
  refine x_putV 6 fp_AbstractList_7 rfl rfl h7 d_AbstractList_init_6 ?_
  cases h
  exact x_return 9 rfl d_AbstractList_init_9
theorem k_AbstractList_init {b : Nat} {r : Unit} {mm res : gM} (h : F_AbstractList_init b mm = some (r, res)) : ∀ (l : Launch) (E : gD), gLe mm res ∧ gMet l E Y_AbstractList_init y_AbstractList_init [.inr (.inr (some b))] none mm res :=
  fun l E => ⟨(w_AbstractList_init (l := l) (E := E) (n0 := 0) (s0 := 0) h).1, x_met (by decide +kernel) rfl rfl rfl (Nat.le_of_ble_eq_true rfl) (w_AbstractList_init h)⟩
theorem d_AL_init_0 : decode b_AL_init 0 = .ok (.aload_n 0, 1) := by decide +kernel
theorem d_AL_init_1 : decode b_AL_init 1 = .ok (.invokespecial 1, 3) := by decide +kernel
theorem d_AL_init_4 : decode b_AL_init 4 = .ok (.aload_n 0, 1) := by decide +kernel
theorem d_AL_init_5 : decode b_AL_init 5 = .ok (.getstatic 39, 3) := by decide +kernel
theorem d_AL_init_8 : decode b_AL_init 8 = .ok (.putfield 9, 3) := by decide +kernel
theorem d_AL_init_11 : decode b_AL_init 11 = .ok (.return_, 1) := by decide +kernel
def F_AL_init (b : Nat) (mm : gM) : Option (Unit × gM) :=
  gb2 (F_AbstractList_init b  mm) fun v1 mm2 =>
  gb1 (gpV 9 0 (some b) (va_rf (some (mm2.2.2.2.1 0))) mm2) fun mm6 =>
  some ((), mm6)
set_option maxHeartbeats 8000000 in
set_option maxRecDepth 100000 in
theorem w_AL_init {l : Launch} {E : gD} {n0 s0 : Nat} {b : Nat} {r : Unit} {mm res : gM} (h : F_AL_init b mm = some (r, res)) : xX l E Y_AL_init n0 s0 none res 0 [(0, .inr (.inr (some b)))] [] mm := by
  unfold F_AL_init at h
  refine x_aloadn 0 0 d_AL_init_0 rfl rfl ?_
  replace h := gb2_elim h; obtain ⟨v1, mm2, h3, h⟩ := h
  refine x_callI 1 0 (as := []) (st' := []) (k_AbstractList_init h3) cf_AL_1 ⟨rfl, by decide +kernel, by decide, by decide, Nat.le_of_ble_eq_true rfl⟩ rfl d_AL_init_1 ?_
  refine x_aloadn 4 0 d_AL_init_4 rfl rfl ?_
  refine x_getS 5 (gT_in0 40 rfl) d_AL_init_5 ?_
  replace h := gb1_elim h; obtain ⟨mm6, h7, h⟩ := h
  refine x_putV 8 fp_AL_9 (g_nA _ _) (g_fA _ _) h7 d_AL_init_8 ?_
  cases h
  exact x_return 11 rfl d_AL_init_11
theorem k_AL_init {b : Nat} {r : Unit} {mm res : gM} (h : F_AL_init b mm = some (r, res)) : ∀ (l : Launch) (E : gD), gLe mm res ∧ gMet l E Y_AL_init y_AL_init [.inr (.inr (some b))] none mm res :=
  fun l E => ⟨(w_AL_init (l := l) (E := E) (n0 := 0) (s0 := 0) h).1, x_met (by decide +kernel) rfl rfl rfl (Nat.le_of_ble_eq_true rfl) (w_AL_init h)⟩
theorem d_Current_init_0 : decode b_Current_init 0 = .ok (.aload_n 0, 1) := by decide +kernel
theorem d_Current_init_1 : decode b_Current_init 1 = .ok (.invokespecial 3, 3) := by decide +kernel
theorem d_Current_init_4 : decode b_Current_init 4 = .ok (.aload_n 0, 1) := by decide +kernel
theorem d_Current_init_5 : decode b_Current_init 5 = .ok (.bipush 8, 2) := by decide +kernel
theorem d_Current_init_7 : decode b_Current_init 7 = .ok (.newarray .int, 2) := by decide +kernel
theorem d_Current_init_9 : decode b_Current_init 9 = .ok (.putfield 9, 3) := by decide +kernel
theorem d_Current_init_12 : decode b_Current_init 12 = .ok (.aload_n 0, 1) := by decide +kernel
theorem d_Current_init_13 : decode b_Current_init 13 = .ok (.bipush 8, 2) := by decide +kernel
theorem d_Current_init_15 : decode b_Current_init 15 = .ok (.newarray .long, 2) := by decide +kernel
theorem d_Current_init_17 : decode b_Current_init 17 = .ok (.putfield 15, 3) := by decide +kernel
theorem d_Current_init_20 : decode b_Current_init 20 = .ok (.return_, 1) := by decide +kernel
def F_Current_init (b : Nat) (mm : gM) : Option (Unit × gM) :=
  gb2 (gnI 0 (8 : Int32) mm) fun v1 mm3 =>
  gb1 (gpV 8 0 (some b) (va_rf v1) mm3) fun mm4 =>
  gb2 (gnL 1 (8 : Int32) mm4) fun v6 mm8 =>
  gb1 (gpV 8 1 (some b) (va_rf v6) mm8) fun mm9 =>
  some ((), mm9)
set_option maxHeartbeats 8000000 in
set_option maxRecDepth 100000 in
theorem w_Current_init {l : Launch} {E : gD} {n0 s0 : Nat} {b : Nat} {r : Unit} {mm res : gM} (h : F_Current_init b mm = some (r, res)) : xX l E Y_Current_init n0 s0 none res 0 [(0, .inr (.inr (some b)))] [] mm := by
  unfold F_Current_init at h
  refine x_aloadn 0 0 d_Current_init_0 rfl rfl ?_
  refine x_objinit 1 rfl (gT_in0 54 rfl) (gT_in0 26 rfl) (gT_in0 27 rfl) (by decide) (by decide) d_Current_init_1 ?_
  refine x_aloadn 4 0 d_Current_init_4 rfl rfl ?_
  refine x_bipush 5 d_Current_init_5 (v := (8 : Int32)) (by decide +kernel) ?_
  replace h := gb2_elim h; obtain ⟨v1, mm3, h2, h⟩ := h
  refine x_newI 7 (by decide) rfl (gT_in0 60 rfl) h2 d_Current_init_7 ?_
  replace h := gb1_elim h; obtain ⟨mm4, h5, h⟩ := h
  refine x_putF 9 fp_Current_9 rfl (g_nA _ _) (g_fA _ _) h5 d_Current_init_9 ?_
  refine x_aloadn 12 0 d_Current_init_12 rfl rfl ?_
  refine x_bipush 13 d_Current_init_13 (v := (8 : Int32)) (by decide +kernel) ?_
  replace h := gb2_elim h; obtain ⟨v6, mm8, h7, h⟩ := h
  refine x_newL 15 (by decide) rfl (gT_in0 61 rfl) h7 d_Current_init_15 ?_
  replace h := gb1_elim h; obtain ⟨mm9, h10, h⟩ := h
  refine x_putF 17 fp_Current_15 rfl (g_nA _ _) (g_fA _ _) h10 d_Current_init_17 ?_
  cases h
  exact x_return 20 rfl d_Current_init_20
theorem k_Current_init {b : Nat} {r : Unit} {mm res : gM} (h : F_Current_init b mm = some (r, res)) : ∀ (l : Launch) (E : gD), gLe mm res ∧ gMet l E Y_Current_init y_Current_init [.inr (.inr (some b))] none mm res :=
  fun l E => ⟨(w_Current_init (l := l) (E := E) (n0 := 0) (s0 := 0) h).1, x_met (by decide +kernel) rfl rfl rfl (Nat.le_of_ble_eq_true rfl) (w_Current_init h)⟩
theorem d_S_init_0 : decode b_S_init 0 = .ok (.aload_n 0, 1) := by decide +kernel
theorem d_S_init_1 : decode b_S_init 1 = .ok (.invokespecial 5, 3) := by decide +kernel
theorem d_S_init_4 : decode b_S_init 4 = .ok (.aload_n 0, 1) := by decide +kernel
theorem d_S_init_5 : decode b_S_init 5 = .ok (.new 11, 3) := by decide +kernel
theorem d_S_init_8 : decode b_S_init 8 = .ok (.dup, 1) := by decide +kernel
theorem d_S_init_9 : decode b_S_init 9 = .ok (.invokespecial 13, 3) := by decide +kernel
theorem d_S_init_12 : decode b_S_init 12 = .ok (.putfield 14, 3) := by decide +kernel
theorem d_S_init_15 : decode b_S_init 15 = .ok (.aload_n 0, 1) := by decide +kernel
theorem d_S_init_16 : decode b_S_init 16 = .ok (.new 11, 3) := by decide +kernel
theorem d_S_init_19 : decode b_S_init 19 = .ok (.dup, 1) := by decide +kernel
theorem d_S_init_20 : decode b_S_init 20 = .ok (.invokespecial 13, 3) := by decide +kernel
theorem d_S_init_23 : decode b_S_init 23 = .ok (.putfield 18, 3) := by decide +kernel
theorem d_S_init_26 : decode b_S_init 26 = .ok (.aload_n 0, 1) := by decide +kernel
theorem d_S_init_27 : decode b_S_init 27 = .ok (.new 11, 3) := by decide +kernel
theorem d_S_init_30 : decode b_S_init 30 = .ok (.dup, 1) := by decide +kernel
theorem d_S_init_31 : decode b_S_init 31 = .ok (.invokespecial 13, 3) := by decide +kernel
theorem d_S_init_34 : decode b_S_init 34 = .ok (.putfield 21, 3) := by decide +kernel
theorem d_S_init_37 : decode b_S_init 37 = .ok (.aload_n 0, 1) := by decide +kernel
theorem d_S_init_38 : decode b_S_init 38 = .ok (.sipush 128, 3) := by decide +kernel
theorem d_S_init_41 : decode b_S_init 41 = .ok (.anewarray 24, 3) := by decide +kernel
theorem d_S_init_44 : decode b_S_init 44 = .ok (.putfield 26, 3) := by decide +kernel
theorem d_S_init_47 : decode b_S_init 47 = .ok (.aload_n 0, 1) := by decide +kernel
theorem d_S_init_48 : decode b_S_init 48 = .ok (.bipush 80, 2) := by decide +kernel
theorem d_S_init_50 : decode b_S_init 50 = .ok (.newarray .boolean, 2) := by decide +kernel
theorem d_S_init_52 : decode b_S_init 52 = .ok (.putfield 30, 3) := by decide +kernel
theorem d_S_init_55 : decode b_S_init 55 = .ok (.aload_n 0, 1) := by decide +kernel
theorem d_S_init_56 : decode b_S_init 56 = .ok (.new 34, 3) := by decide +kernel
theorem d_S_init_59 : decode b_S_init 59 = .ok (.dup, 1) := by decide +kernel
theorem d_S_init_60 : decode b_S_init 60 = .ok (.invokespecial 36, 3) := by decide +kernel
theorem d_S_init_63 : decode b_S_init 63 = .ok (.putfield 37, 3) := by decide +kernel
theorem d_S_init_66 : decode b_S_init 66 = .ok (.aload_n 0, 1) := by decide +kernel
theorem d_S_init_67 : decode b_S_init 67 = .ok (.iconst 0, 1) := by decide +kernel
theorem d_S_init_68 : decode b_S_init 68 = .ok (.putfield 41, 3) := by decide +kernel
theorem d_S_init_71 : decode b_S_init 71 = .ok (.return_, 1) := by decide +kernel
def F_S_init (b : Nat) (mm : gM) : Option (Unit × gM) :=
  gb2 (gnO 9 [.null, .int 0, .int 0] 3 mm) fun v1 mm3 =>
  gb1 v1 fun b7 =>
  gb2 (F_AL_init b7  mm3) fun v4 mm5 =>
  gb1 (gpV 0 0 (some b) (va_rf (some b7)) mm5) fun mm9 =>
  gb2 (gnO 9 [.null, .int 0, .int 0] 3 mm9) fun v11 mm13 =>
  gb1 v11 fun b17 =>
  gb2 (F_AL_init b17  mm13) fun v14 mm15 =>
  gb1 (gpV 0 1 (some b) (va_rf (some b17)) mm15) fun mm19 =>
  gb2 (gnO 9 [.null, .int 0, .int 0] 3 mm19) fun v21 mm23 =>
  gb1 v21 fun b27 =>
  gb2 (F_AL_init b27  mm23) fun v24 mm25 =>
  gb1 (gpV 0 2 (some b) (va_rf (some b27)) mm25) fun mm29 =>
  gb2 (gnR 3 (128 : Int32) mm29) fun v31 mm33 =>
  gb1 (gpV 0 3 (some b) (va_rf v31) mm33) fun mm34 =>
  gb2 (gnI 2 (80 : Int32) mm34) fun v36 mm38 =>
  gb1 (gpV 0 4 (some b) (va_rf v36) mm38) fun mm39 =>
  gb2 (gnO 8 [.null, .null] 2 mm39) fun v41 mm43 =>
  gb1 v41 fun b47 =>
  gb2 (F_Current_init b47  mm43) fun v44 mm45 =>
  gb1 (gpV 0 5 (some b) (va_rf (some b47)) mm45) fun mm49 =>
  gb1 (gpV 0 6 (some b) (.int (0 : Int32)) mm49) fun mm51 =>
  some ((), mm51)
set_option maxHeartbeats 8000000 in
set_option maxRecDepth 100000 in
theorem w_S_init {l : Launch} {E : gD} {n0 s0 : Nat} {b : Nat} {r : Unit} {mm res : gM} (h : F_S_init b mm = some (r, res)) : xX l E Y_S_init n0 s0 none res 0 [(0, .inr (.inr (some b)))] [] mm := by
  unfold F_S_init at h
  refine x_aloadn 0 0 d_S_init_0 rfl rfl ?_
  refine x_objinit 1 rfl (gT_in0 25 rfl) (gT_in0 26 rfl) (gT_in0 27 rfl) (by decide) (by decide) d_S_init_1 ?_
  refine x_aloadn 4 0 d_S_init_4 rfl rfl ?_
  replace h := gb2_elim h; obtain ⟨v1, mm3, h2, h⟩ := h
  refine x_new 5 nw_S_11 h2 d_S_init_5 ?_
  refine x_dup 8 d_S_init_8 rfl ?_
  replace h := gb1_elim h; obtain ⟨b7, h8, h⟩ := h
  subst h8
  replace h := gb2_elim h; obtain ⟨v4, mm5, h6, h⟩ := h
  refine x_callI 9 0 (as := []) (st' := [.inr (.inr (some b7)), .inr (.inr (some b))]) (k_AL_init h6) cf_S_13 ⟨rfl, by decide +kernel, by decide, by decide, Nat.le_of_ble_eq_true rfl⟩ rfl d_S_init_9 ?_
  replace h := gb1_elim h; obtain ⟨mm9, h10, h⟩ := h
  refine x_putF 12 fp_S_14 rfl (g_nR _ _) (g_fR _ _) h10 d_S_init_12 ?_
  refine x_aloadn 15 0 d_S_init_15 rfl rfl ?_
  replace h := gb2_elim h; obtain ⟨v11, mm13, h12, h⟩ := h
  refine x_new 16 nw_S_11 h12 d_S_init_16 ?_
  refine x_dup 19 d_S_init_19 rfl ?_
  replace h := gb1_elim h; obtain ⟨b17, h18, h⟩ := h
  subst h18
  replace h := gb2_elim h; obtain ⟨v14, mm15, h16, h⟩ := h
  refine x_callI 20 0 (as := []) (st' := [.inr (.inr (some b17)), .inr (.inr (some b))]) (k_AL_init h16) cf_S_13 ⟨rfl, by decide +kernel, by decide, by decide, Nat.le_of_ble_eq_true rfl⟩ rfl d_S_init_20 ?_
  replace h := gb1_elim h; obtain ⟨mm19, h20, h⟩ := h
  refine x_putF 23 fp_S_18 rfl (g_nR _ _) (g_fR _ _) h20 d_S_init_23 ?_
  refine x_aloadn 26 0 d_S_init_26 rfl rfl ?_
  replace h := gb2_elim h; obtain ⟨v21, mm23, h22, h⟩ := h
  refine x_new 27 nw_S_11 h22 d_S_init_27 ?_
  refine x_dup 30 d_S_init_30 rfl ?_
  replace h := gb1_elim h; obtain ⟨b27, h28, h⟩ := h
  subst h28
  replace h := gb2_elim h; obtain ⟨v24, mm25, h26, h⟩ := h
  refine x_callI 31 0 (as := []) (st' := [.inr (.inr (some b27)), .inr (.inr (some b))]) (k_AL_init h26) cf_S_13 ⟨rfl, by decide +kernel, by decide, by decide, Nat.le_of_ble_eq_true rfl⟩ rfl d_S_init_31 ?_
  replace h := gb1_elim h; obtain ⟨mm29, h30, h⟩ := h
  refine x_putF 34 fp_S_21 rfl (g_nR _ _) (g_fR _ _) h30 d_S_init_34 ?_
  refine x_aloadn 37 0 d_S_init_37 rfl rfl ?_
  refine x_sipush 38 d_S_init_38 (v := (128 : Int32)) (by decide +kernel) ?_
  replace h := gb2_elim h; obtain ⟨v31, mm33, h32, h⟩ := h
  refine x_newR 41 (C := "ShipSets$Telling") (by decide) rfl (gT_in0 49 rfl) (by decide +kernel) h32 d_S_init_41 ?_
  replace h := gb1_elim h; obtain ⟨mm34, h35, h⟩ := h
  refine x_putF 44 fp_S_26 rfl (g_nA _ _) (g_fA _ _) h35 d_S_init_44 ?_
  refine x_aloadn 47 0 d_S_init_47 rfl rfl ?_
  refine x_bipush 48 d_S_init_48 (v := (80 : Int32)) (by decide +kernel) ?_
  replace h := gb2_elim h; obtain ⟨v36, mm38, h37, h⟩ := h
  refine x_newZ 50 (by decide) rfl (gT_in0 59 rfl) h37 d_S_init_50 ?_
  replace h := gb1_elim h; obtain ⟨mm39, h40, h⟩ := h
  refine x_putF 52 fp_S_30 rfl (g_nA _ _) (g_fA _ _) h40 d_S_init_52 ?_
  refine x_aloadn 55 0 d_S_init_55 rfl rfl ?_
  replace h := gb2_elim h; obtain ⟨v41, mm43, h42, h⟩ := h
  refine x_new 56 nw_S_34 h42 d_S_init_56 ?_
  refine x_dup 59 d_S_init_59 rfl ?_
  replace h := gb1_elim h; obtain ⟨b47, h48, h⟩ := h
  subst h48
  replace h := gb2_elim h; obtain ⟨v44, mm45, h46, h⟩ := h
  refine x_callI 60 0 (as := []) (st' := [.inr (.inr (some b47)), .inr (.inr (some b))]) (k_Current_init h46) cf_S_36 ⟨rfl, by decide +kernel, by decide, by decide, Nat.le_of_ble_eq_true rfl⟩ rfl d_S_init_60 ?_
  replace h := gb1_elim h; obtain ⟨mm49, h50, h⟩ := h
  refine x_putF 63 fp_S_37 rfl (g_nR _ _) (g_fR _ _) h50 d_S_init_63 ?_
  refine x_aloadn 66 0 d_S_init_66 rfl rfl ?_
  refine x_iconst 67 d_S_init_67 (v := (0 : Int32)) (by decide +kernel) ?_
  replace h := gb1_elim h; obtain ⟨mm51, h52, h⟩ := h
  refine x_putV 68 fp_S_41 rfl rfl h52 d_S_init_68 ?_
  cases h
  exact x_return 71 rfl d_S_init_71
theorem k_S_init {b : Nat} {r : Unit} {mm res : gM} (h : F_S_init b mm = some (r, res)) : ∀ (l : Launch) (E : gD), gLe mm res ∧ gMet l E Y_S_init y_S_init [.inr (.inr (some b))] none mm res :=
  fun l E => ⟨(w_S_init (l := l) (E := E) (n0 := 0) (s0 := 0) h).1, x_met (by decide +kernel) rfl rfl rfl (Nat.le_of_ble_eq_true rfl) (w_S_init h)⟩
theorem d_M_init_0 : decode b_M_init 0 = .ok (.aload_n 0, 1) := by decide +kernel
theorem d_M_init_1 : decode b_M_init 1 = .ok (.invokespecial 1, 3) := by decide +kernel
theorem d_M_init_4 : decode b_M_init 4 = .ok (.aload_n 0, 1) := by decide +kernel
theorem d_M_init_5 : decode b_M_init 5 = .ok (.bipush 8, 2) := by decide +kernel
theorem d_M_init_7 : decode b_M_init 7 = .ok (.newarray .boolean, 2) := by decide +kernel
theorem d_M_init_9 : decode b_M_init 9 = .ok (.putfield 7, 3) := by decide +kernel
theorem d_M_init_12 : decode b_M_init 12 = .ok (.aload_n 0, 1) := by decide +kernel
theorem d_M_init_13 : decode b_M_init 13 = .ok (.sipush 200, 3) := by decide +kernel
theorem d_M_init_16 : decode b_M_init 16 = .ok (.newarray .int, 2) := by decide +kernel
theorem d_M_init_18 : decode b_M_init 18 = .ok (.putfield 13, 3) := by decide +kernel
theorem d_M_init_21 : decode b_M_init 21 = .ok (.aload_n 0, 1) := by decide +kernel
theorem d_M_init_22 : decode b_M_init 22 = .ok (.sipush 200, 3) := by decide +kernel
theorem d_M_init_25 : decode b_M_init 25 = .ok (.newarray .int, 2) := by decide +kernel
theorem d_M_init_27 : decode b_M_init 27 = .ok (.putfield 17, 3) := by decide +kernel
theorem d_M_init_30 : decode b_M_init 30 = .ok (.aload_n 0, 1) := by decide +kernel
theorem d_M_init_31 : decode b_M_init 31 = .ok (.sipush 200, 3) := by decide +kernel
theorem d_M_init_34 : decode b_M_init 34 = .ok (.newarray .int, 2) := by decide +kernel
theorem d_M_init_36 : decode b_M_init 36 = .ok (.putfield 20, 3) := by decide +kernel
theorem d_M_init_39 : decode b_M_init 39 = .ok (.aload_n 0, 1) := by decide +kernel
theorem d_M_init_40 : decode b_M_init 40 = .ok (.sipush 200, 3) := by decide +kernel
theorem d_M_init_43 : decode b_M_init 43 = .ok (.newarray .int, 2) := by decide +kernel
theorem d_M_init_45 : decode b_M_init 45 = .ok (.putfield 23, 3) := by decide +kernel
theorem d_M_init_48 : decode b_M_init 48 = .ok (.aload_n 0, 1) := by decide +kernel
theorem d_M_init_49 : decode b_M_init 49 = .ok (.sipush 200, 3) := by decide +kernel
theorem d_M_init_52 : decode b_M_init 52 = .ok (.newarray .long, 2) := by decide +kernel
theorem d_M_init_54 : decode b_M_init 54 = .ok (.putfield 26, 3) := by decide +kernel
theorem d_M_init_57 : decode b_M_init 57 = .ok (.aload_n 0, 1) := by decide +kernel
theorem d_M_init_58 : decode b_M_init 58 = .ok (.sipush 200, 3) := by decide +kernel
theorem d_M_init_61 : decode b_M_init 61 = .ok (.newarray .int, 2) := by decide +kernel
theorem d_M_init_63 : decode b_M_init 63 = .ok (.putfield 30, 3) := by decide +kernel
theorem d_M_init_66 : decode b_M_init 66 = .ok (.aload_n 0, 1) := by decide +kernel
theorem d_M_init_67 : decode b_M_init 67 = .ok (.sipush 4800, 3) := by decide +kernel
theorem d_M_init_70 : decode b_M_init 70 = .ok (.newarray .boolean, 2) := by decide +kernel
theorem d_M_init_72 : decode b_M_init 72 = .ok (.putfield 33, 3) := by decide +kernel
theorem d_M_init_75 : decode b_M_init 75 = .ok (.aload_n 0, 1) := by decide +kernel
theorem d_M_init_76 : decode b_M_init 76 = .ok (.sipush 960, 3) := by decide +kernel
theorem d_M_init_79 : decode b_M_init 79 = .ok (.newarray .boolean, 2) := by decide +kernel
theorem d_M_init_81 : decode b_M_init 81 = .ok (.putfield 36, 3) := by decide +kernel
theorem d_M_init_84 : decode b_M_init 84 = .ok (.aload_n 0, 1) := by decide +kernel
theorem d_M_init_85 : decode b_M_init 85 = .ok (.bipush 12, 2) := by decide +kernel
theorem d_M_init_87 : decode b_M_init 87 = .ok (.newarray .boolean, 2) := by decide +kernel
theorem d_M_init_89 : decode b_M_init 89 = .ok (.putfield 39, 3) := by decide +kernel
theorem d_M_init_92 : decode b_M_init 92 = .ok (.aload_n 0, 1) := by decide +kernel
theorem d_M_init_93 : decode b_M_init 93 = .ok (.bipush 40, 2) := by decide +kernel
theorem d_M_init_95 : decode b_M_init 95 = .ok (.newarray .int, 2) := by decide +kernel
theorem d_M_init_97 : decode b_M_init 97 = .ok (.putfield 42, 3) := by decide +kernel
theorem d_M_init_100 : decode b_M_init 100 = .ok (.aload_n 0, 1) := by decide +kernel
theorem d_M_init_101 : decode b_M_init 101 = .ok (.bipush 40, 2) := by decide +kernel
theorem d_M_init_103 : decode b_M_init 103 = .ok (.newarray .int, 2) := by decide +kernel
theorem d_M_init_105 : decode b_M_init 105 = .ok (.putfield 45, 3) := by decide +kernel
theorem d_M_init_108 : decode b_M_init 108 = .ok (.aload_n 0, 1) := by decide +kernel
theorem d_M_init_109 : decode b_M_init 109 = .ok (.bipush 40, 2) := by decide +kernel
theorem d_M_init_111 : decode b_M_init 111 = .ok (.newarray .int, 2) := by decide +kernel
theorem d_M_init_113 : decode b_M_init 113 = .ok (.putfield 48, 3) := by decide +kernel
theorem d_M_init_116 : decode b_M_init 116 = .ok (.aload_n 0, 1) := by decide +kernel
theorem d_M_init_117 : decode b_M_init 117 = .ok (.sipush 8000, 3) := by decide +kernel
theorem d_M_init_120 : decode b_M_init 120 = .ok (.newarray .boolean, 2) := by decide +kernel
theorem d_M_init_122 : decode b_M_init 122 = .ok (.putfield 51, 3) := by decide +kernel
theorem d_M_init_125 : decode b_M_init 125 = .ok (.aload_n 0, 1) := by decide +kernel
theorem d_M_init_126 : decode b_M_init 126 = .ok (.bipush 80, 2) := by decide +kernel
theorem d_M_init_128 : decode b_M_init 128 = .ok (.newarray .boolean, 2) := by decide +kernel
theorem d_M_init_130 : decode b_M_init 130 = .ok (.putfield 54, 3) := by decide +kernel
theorem d_M_init_133 : decode b_M_init 133 = .ok (.aload_n 0, 1) := by decide +kernel
theorem d_M_init_134 : decode b_M_init 134 = .ok (.bipush 8, 2) := by decide +kernel
theorem d_M_init_136 : decode b_M_init 136 = .ok (.newarray .int, 2) := by decide +kernel
theorem d_M_init_138 : decode b_M_init 138 = .ok (.putfield 57, 3) := by decide +kernel
theorem d_M_init_141 : decode b_M_init 141 = .ok (.aload_n 0, 1) := by decide +kernel
theorem d_M_init_142 : decode b_M_init 142 = .ok (.bipush 48, 2) := by decide +kernel
theorem d_M_init_144 : decode b_M_init 144 = .ok (.newarray .int, 2) := by decide +kernel
theorem d_M_init_146 : decode b_M_init 146 = .ok (.putfield 60, 3) := by decide +kernel
theorem d_M_init_149 : decode b_M_init 149 = .ok (.aload_n 0, 1) := by decide +kernel
theorem d_M_init_150 : decode b_M_init 150 = .ok (.bipush 48, 2) := by decide +kernel
theorem d_M_init_152 : decode b_M_init 152 = .ok (.newarray .int, 2) := by decide +kernel
theorem d_M_init_154 : decode b_M_init 154 = .ok (.putfield 63, 3) := by decide +kernel
theorem d_M_init_157 : decode b_M_init 157 = .ok (.aload_n 0, 1) := by decide +kernel
theorem d_M_init_158 : decode b_M_init 158 = .ok (.ldc 66, 2) := by decide +kernel
theorem d_M_init_160 : decode b_M_init 160 = .ok (.newarray .boolean, 2) := by decide +kernel
theorem d_M_init_162 : decode b_M_init 162 = .ok (.putfield 67, 3) := by decide +kernel
theorem d_M_init_165 : decode b_M_init 165 = .ok (.aload_n 0, 1) := by decide +kernel
theorem d_M_init_166 : decode b_M_init 166 = .ok (.bipush 8, 2) := by decide +kernel
theorem d_M_init_168 : decode b_M_init 168 = .ok (.newarray .int, 2) := by decide +kernel
theorem d_M_init_170 : decode b_M_init 170 = .ok (.putfield 70, 3) := by decide +kernel
theorem d_M_init_173 : decode b_M_init 173 = .ok (.aload_n 0, 1) := by decide +kernel
theorem d_M_init_174 : decode b_M_init 174 = .ok (.bipush 48, 2) := by decide +kernel
theorem d_M_init_176 : decode b_M_init 176 = .ok (.newarray .long, 2) := by decide +kernel
theorem d_M_init_178 : decode b_M_init 178 = .ok (.putfield 73, 3) := by decide +kernel
theorem d_M_init_181 : decode b_M_init 181 = .ok (.aload_n 0, 1) := by decide +kernel
theorem d_M_init_182 : decode b_M_init 182 = .ok (.bipush 48, 2) := by decide +kernel
theorem d_M_init_184 : decode b_M_init 184 = .ok (.newarray .long, 2) := by decide +kernel
theorem d_M_init_186 : decode b_M_init 186 = .ok (.putfield 76, 3) := by decide +kernel
theorem d_M_init_189 : decode b_M_init 189 = .ok (.aload_n 0, 1) := by decide +kernel
theorem d_M_init_190 : decode b_M_init 190 = .ok (.sipush 200, 3) := by decide +kernel
theorem d_M_init_193 : decode b_M_init 193 = .ok (.newarray .boolean, 2) := by decide +kernel
theorem d_M_init_195 : decode b_M_init 195 = .ok (.putfield 79, 3) := by decide +kernel
theorem d_M_init_198 : decode b_M_init 198 = .ok (.return_, 1) := by decide +kernel
def F_M_init (b : Nat) (mm : gM) : Option (Unit × gM) :=
  gb2 (gnI 2 (8 : Int32) mm) fun v1 mm3 =>
  gb1 (gpV 10 1 (some b) (va_rf v1) mm3) fun mm4 =>
  gb2 (gnI 0 (200 : Int32) mm4) fun v6 mm8 =>
  gb1 (gpV 10 3 (some b) (va_rf v6) mm8) fun mm9 =>
  gb2 (gnI 0 (200 : Int32) mm9) fun v11 mm13 =>
  gb1 (gpV 10 4 (some b) (va_rf v11) mm13) fun mm14 =>
  gb2 (gnI 0 (200 : Int32) mm14) fun v16 mm18 =>
  gb1 (gpV 10 5 (some b) (va_rf v16) mm18) fun mm19 =>
  gb2 (gnI 0 (200 : Int32) mm19) fun v21 mm23 =>
  gb1 (gpV 10 6 (some b) (va_rf v21) mm23) fun mm24 =>
  gb2 (gnL 1 (200 : Int32) mm24) fun v26 mm28 =>
  gb1 (gpV 10 7 (some b) (va_rf v26) mm28) fun mm29 =>
  gb2 (gnI 0 (200 : Int32) mm29) fun v31 mm33 =>
  gb1 (gpV 10 8 (some b) (va_rf v31) mm33) fun mm34 =>
  gb2 (gnI 2 (4800 : Int32) mm34) fun v36 mm38 =>
  gb1 (gpV 10 10 (some b) (va_rf v36) mm38) fun mm39 =>
  gb2 (gnI 2 (960 : Int32) mm39) fun v41 mm43 =>
  gb1 (gpV 10 11 (some b) (va_rf v41) mm43) fun mm44 =>
  gb2 (gnI 2 (12 : Int32) mm44) fun v46 mm48 =>
  gb1 (gpV 10 12 (some b) (va_rf v46) mm48) fun mm49 =>
  gb2 (gnI 0 (40 : Int32) mm49) fun v51 mm53 =>
  gb1 (gpV 10 14 (some b) (va_rf v51) mm53) fun mm54 =>
  gb2 (gnI 0 (40 : Int32) mm54) fun v56 mm58 =>
  gb1 (gpV 10 15 (some b) (va_rf v56) mm58) fun mm59 =>
  gb2 (gnI 0 (40 : Int32) mm59) fun v61 mm63 =>
  gb1 (gpV 10 16 (some b) (va_rf v61) mm63) fun mm64 =>
  gb2 (gnI 2 (8000 : Int32) mm64) fun v66 mm68 =>
  gb1 (gpV 10 17 (some b) (va_rf v66) mm68) fun mm69 =>
  gb2 (gnI 2 (80 : Int32) mm69) fun v71 mm73 =>
  gb1 (gpV 10 18 (some b) (va_rf v71) mm73) fun mm74 =>
  gb2 (gnI 0 (8 : Int32) mm74) fun v76 mm78 =>
  gb1 (gpV 10 19 (some b) (va_rf v76) mm78) fun mm79 =>
  gb2 (gnI 0 (48 : Int32) mm79) fun v81 mm83 =>
  gb1 (gpV 10 20 (some b) (va_rf v81) mm83) fun mm84 =>
  gb2 (gnI 0 (48 : Int32) mm84) fun v86 mm88 =>
  gb1 (gpV 10 21 (some b) (va_rf v86) mm88) fun mm89 =>
  gb2 (gnI 2 (80000 : Int32) mm89) fun v91 mm93 =>
  gb1 (gpV 10 22 (some b) (va_rf v91) mm93) fun mm94 =>
  gb2 (gnI 0 (8 : Int32) mm94) fun v96 mm98 =>
  gb1 (gpV 10 23 (some b) (va_rf v96) mm98) fun mm99 =>
  gb2 (gnL 1 (48 : Int32) mm99) fun v101 mm103 =>
  gb1 (gpV 10 24 (some b) (va_rf v101) mm103) fun mm104 =>
  gb2 (gnL 1 (48 : Int32) mm104) fun v106 mm108 =>
  gb1 (gpV 10 25 (some b) (va_rf v106) mm108) fun mm109 =>
  gb2 (gnI 2 (200 : Int32) mm109) fun v111 mm113 =>
  gb1 (gpV 10 26 (some b) (va_rf v111) mm113) fun mm114 =>
  some ((), mm114)
set_option maxHeartbeats 8000000 in
set_option maxRecDepth 100000 in
theorem w_M_init {l : Launch} {E : gD} {n0 s0 : Nat} {b : Nat} {r : Unit} {mm res : gM} (h : F_M_init b mm = some (r, res)) : xX l E Y_M_init n0 s0 none res 0 [(0, .inr (.inr (some b)))] [] mm := by
  unfold F_M_init at h
  refine x_aloadn 0 0 d_M_init_0 rfl rfl ?_
  refine x_objinit 1 rfl (gT_in3 61 rfl) (gT_in0 26 rfl) (gT_in0 27 rfl) (by decide) (by decide) d_M_init_1 ?_
  refine x_aloadn 4 0 d_M_init_4 rfl rfl ?_
  refine x_bipush 5 d_M_init_5 (v := (8 : Int32)) (by decide +kernel) ?_
  replace h := gb2_elim h; obtain ⟨v1, mm3, h2, h⟩ := h
  refine x_newZ 7 (by decide) rfl (gT_in0 59 rfl) h2 d_M_init_7 ?_
  replace h := gb1_elim h; obtain ⟨mm4, h5, h⟩ := h
  refine x_putF 9 fp_M_7 rfl (g_nA _ _) (g_fA _ _) h5 d_M_init_9 ?_
  refine x_aloadn 12 0 d_M_init_12 rfl rfl ?_
  refine x_sipush 13 d_M_init_13 (v := (200 : Int32)) (by decide +kernel) ?_
  replace h := gb2_elim h; obtain ⟨v6, mm8, h7, h⟩ := h
  refine x_newI 16 (by decide) rfl (gT_in0 60 rfl) h7 d_M_init_16 ?_
  replace h := gb1_elim h; obtain ⟨mm9, h10, h⟩ := h
  refine x_putF 18 fp_M_13 rfl (g_nA _ _) (g_fA _ _) h10 d_M_init_18 ?_
  refine x_aloadn 21 0 d_M_init_21 rfl rfl ?_
  refine x_sipush 22 d_M_init_22 (v := (200 : Int32)) (by decide +kernel) ?_
  replace h := gb2_elim h; obtain ⟨v11, mm13, h12, h⟩ := h
  refine x_newI 25 (by decide) rfl (gT_in0 60 rfl) h12 d_M_init_25 ?_
  replace h := gb1_elim h; obtain ⟨mm14, h15, h⟩ := h
  refine x_putF 27 fp_M_17 rfl (g_nA _ _) (g_fA _ _) h15 d_M_init_27 ?_
  refine x_aloadn 30 0 d_M_init_30 rfl rfl ?_
  refine x_sipush 31 d_M_init_31 (v := (200 : Int32)) (by decide +kernel) ?_
  replace h := gb2_elim h; obtain ⟨v16, mm18, h17, h⟩ := h
  refine x_newI 34 (by decide) rfl (gT_in0 60 rfl) h17 d_M_init_34 ?_
  replace h := gb1_elim h; obtain ⟨mm19, h20, h⟩ := h
  refine x_putF 36 fp_M_20 rfl (g_nA _ _) (g_fA _ _) h20 d_M_init_36 ?_
  refine x_aloadn 39 0 d_M_init_39 rfl rfl ?_
  refine x_sipush 40 d_M_init_40 (v := (200 : Int32)) (by decide +kernel) ?_
  replace h := gb2_elim h; obtain ⟨v21, mm23, h22, h⟩ := h
  refine x_newI 43 (by decide) rfl (gT_in0 60 rfl) h22 d_M_init_43 ?_
  replace h := gb1_elim h; obtain ⟨mm24, h25, h⟩ := h
  refine x_putF 45 fp_M_23 rfl (g_nA _ _) (g_fA _ _) h25 d_M_init_45 ?_
  refine x_aloadn 48 0 d_M_init_48 rfl rfl ?_
  refine x_sipush 49 d_M_init_49 (v := (200 : Int32)) (by decide +kernel) ?_
  replace h := gb2_elim h; obtain ⟨v26, mm28, h27, h⟩ := h
  refine x_newL 52 (by decide) rfl (gT_in0 61 rfl) h27 d_M_init_52 ?_
  replace h := gb1_elim h; obtain ⟨mm29, h30, h⟩ := h
  refine x_putF 54 fp_M_26 rfl (g_nA _ _) (g_fA _ _) h30 d_M_init_54 ?_
  refine x_aloadn 57 0 d_M_init_57 rfl rfl ?_
  refine x_sipush 58 d_M_init_58 (v := (200 : Int32)) (by decide +kernel) ?_
  replace h := gb2_elim h; obtain ⟨v31, mm33, h32, h⟩ := h
  refine x_newI 61 (by decide) rfl (gT_in0 60 rfl) h32 d_M_init_61 ?_
  replace h := gb1_elim h; obtain ⟨mm34, h35, h⟩ := h
  refine x_putF 63 fp_M_30 rfl (g_nA _ _) (g_fA _ _) h35 d_M_init_63 ?_
  refine x_aloadn 66 0 d_M_init_66 rfl rfl ?_
  refine x_sipush 67 d_M_init_67 (v := (4800 : Int32)) (by decide +kernel) ?_
  replace h := gb2_elim h; obtain ⟨v36, mm38, h37, h⟩ := h
  refine x_newZ 70 (by decide) rfl (gT_in0 59 rfl) h37 d_M_init_70 ?_
  replace h := gb1_elim h; obtain ⟨mm39, h40, h⟩ := h
  refine x_putF 72 fp_M_33 rfl (g_nA _ _) (g_fA _ _) h40 d_M_init_72 ?_
  refine x_aloadn 75 0 d_M_init_75 rfl rfl ?_
  refine x_sipush 76 d_M_init_76 (v := (960 : Int32)) (by decide +kernel) ?_
  replace h := gb2_elim h; obtain ⟨v41, mm43, h42, h⟩ := h
  refine x_newZ 79 (by decide) rfl (gT_in0 59 rfl) h42 d_M_init_79 ?_
  replace h := gb1_elim h; obtain ⟨mm44, h45, h⟩ := h
  refine x_putF 81 fp_M_36 rfl (g_nA _ _) (g_fA _ _) h45 d_M_init_81 ?_
  refine x_aloadn 84 0 d_M_init_84 rfl rfl ?_
  refine x_bipush 85 d_M_init_85 (v := (12 : Int32)) (by decide +kernel) ?_
  replace h := gb2_elim h; obtain ⟨v46, mm48, h47, h⟩ := h
  refine x_newZ 87 (by decide) rfl (gT_in0 59 rfl) h47 d_M_init_87 ?_
  replace h := gb1_elim h; obtain ⟨mm49, h50, h⟩ := h
  refine x_putF 89 fp_M_39 rfl (g_nA _ _) (g_fA _ _) h50 d_M_init_89 ?_
  refine x_aloadn 92 0 d_M_init_92 rfl rfl ?_
  refine x_bipush 93 d_M_init_93 (v := (40 : Int32)) (by decide +kernel) ?_
  replace h := gb2_elim h; obtain ⟨v51, mm53, h52, h⟩ := h
  refine x_newI 95 (by decide) rfl (gT_in0 60 rfl) h52 d_M_init_95 ?_
  replace h := gb1_elim h; obtain ⟨mm54, h55, h⟩ := h
  refine x_putF 97 fp_M_42 rfl (g_nA _ _) (g_fA _ _) h55 d_M_init_97 ?_
  refine x_aloadn 100 0 d_M_init_100 rfl rfl ?_
  refine x_bipush 101 d_M_init_101 (v := (40 : Int32)) (by decide +kernel) ?_
  replace h := gb2_elim h; obtain ⟨v56, mm58, h57, h⟩ := h
  refine x_newI 103 (by decide) rfl (gT_in0 60 rfl) h57 d_M_init_103 ?_
  replace h := gb1_elim h; obtain ⟨mm59, h60, h⟩ := h
  refine x_putF 105 fp_M_45 rfl (g_nA _ _) (g_fA _ _) h60 d_M_init_105 ?_
  refine x_aloadn 108 0 d_M_init_108 rfl rfl ?_
  refine x_bipush 109 d_M_init_109 (v := (40 : Int32)) (by decide +kernel) ?_
  replace h := gb2_elim h; obtain ⟨v61, mm63, h62, h⟩ := h
  refine x_newI 111 (by decide) rfl (gT_in0 60 rfl) h62 d_M_init_111 ?_
  replace h := gb1_elim h; obtain ⟨mm64, h65, h⟩ := h
  refine x_putF 113 fp_M_48 rfl (g_nA _ _) (g_fA _ _) h65 d_M_init_113 ?_
  refine x_aloadn 116 0 d_M_init_116 rfl rfl ?_
  refine x_sipush 117 d_M_init_117 (v := (8000 : Int32)) (by decide +kernel) ?_
  replace h := gb2_elim h; obtain ⟨v66, mm68, h67, h⟩ := h
  refine x_newZ 120 (by decide) rfl (gT_in0 59 rfl) h67 d_M_init_120 ?_
  replace h := gb1_elim h; obtain ⟨mm69, h70, h⟩ := h
  refine x_putF 122 fp_M_51 rfl (g_nA _ _) (g_fA _ _) h70 d_M_init_122 ?_
  refine x_aloadn 125 0 d_M_init_125 rfl rfl ?_
  refine x_bipush 126 d_M_init_126 (v := (80 : Int32)) (by decide +kernel) ?_
  replace h := gb2_elim h; obtain ⟨v71, mm73, h72, h⟩ := h
  refine x_newZ 128 (by decide) rfl (gT_in0 59 rfl) h72 d_M_init_128 ?_
  replace h := gb1_elim h; obtain ⟨mm74, h75, h⟩ := h
  refine x_putF 130 fp_M_54 rfl (g_nA _ _) (g_fA _ _) h75 d_M_init_130 ?_
  refine x_aloadn 133 0 d_M_init_133 rfl rfl ?_
  refine x_bipush 134 d_M_init_134 (v := (8 : Int32)) (by decide +kernel) ?_
  replace h := gb2_elim h; obtain ⟨v76, mm78, h77, h⟩ := h
  refine x_newI 136 (by decide) rfl (gT_in0 60 rfl) h77 d_M_init_136 ?_
  replace h := gb1_elim h; obtain ⟨mm79, h80, h⟩ := h
  refine x_putF 138 fp_M_57 rfl (g_nA _ _) (g_fA _ _) h80 d_M_init_138 ?_
  refine x_aloadn 141 0 d_M_init_141 rfl rfl ?_
  refine x_bipush 142 d_M_init_142 (v := (48 : Int32)) (by decide +kernel) ?_
  replace h := gb2_elim h; obtain ⟨v81, mm83, h82, h⟩ := h
  refine x_newI 144 (by decide) rfl (gT_in0 60 rfl) h82 d_M_init_144 ?_
  replace h := gb1_elim h; obtain ⟨mm84, h85, h⟩ := h
  refine x_putF 146 fp_M_60 rfl (g_nA _ _) (g_fA _ _) h85 d_M_init_146 ?_
  refine x_aloadn 149 0 d_M_init_149 rfl rfl ?_
  refine x_bipush 150 d_M_init_150 (v := (48 : Int32)) (by decide +kernel) ?_
  replace h := gb2_elim h; obtain ⟨v86, mm88, h87, h⟩ := h
  refine x_newI 152 (by decide) rfl (gT_in0 60 rfl) h87 d_M_init_152 ?_
  replace h := gb1_elim h; obtain ⟨mm89, h90, h⟩ := h
  refine x_putF 154 fp_M_63 rfl (g_nA _ _) (g_fA _ _) h90 d_M_init_154 ?_
  refine x_aloadn 157 0 d_M_init_157 rfl rfl ?_
  refine x_ldc 158 d_M_init_158 (v := (80000 : Int32)) (gT_in3 62 rfl) ?_
  replace h := gb2_elim h; obtain ⟨v91, mm93, h92, h⟩ := h
  refine x_newZ 160 (by decide) rfl (gT_in0 59 rfl) h92 d_M_init_160 ?_
  replace h := gb1_elim h; obtain ⟨mm94, h95, h⟩ := h
  refine x_putF 162 fp_M_67 rfl (g_nA _ _) (g_fA _ _) h95 d_M_init_162 ?_
  refine x_aloadn 165 0 d_M_init_165 rfl rfl ?_
  refine x_bipush 166 d_M_init_166 (v := (8 : Int32)) (by decide +kernel) ?_
  replace h := gb2_elim h; obtain ⟨v96, mm98, h97, h⟩ := h
  refine x_newI 168 (by decide) rfl (gT_in0 60 rfl) h97 d_M_init_168 ?_
  replace h := gb1_elim h; obtain ⟨mm99, h100, h⟩ := h
  refine x_putF 170 fp_M_70 rfl (g_nA _ _) (g_fA _ _) h100 d_M_init_170 ?_
  refine x_aloadn 173 0 d_M_init_173 rfl rfl ?_
  refine x_bipush 174 d_M_init_174 (v := (48 : Int32)) (by decide +kernel) ?_
  replace h := gb2_elim h; obtain ⟨v101, mm103, h102, h⟩ := h
  refine x_newL 176 (by decide) rfl (gT_in0 61 rfl) h102 d_M_init_176 ?_
  replace h := gb1_elim h; obtain ⟨mm104, h105, h⟩ := h
  refine x_putF 178 fp_M_73 rfl (g_nA _ _) (g_fA _ _) h105 d_M_init_178 ?_
  refine x_aloadn 181 0 d_M_init_181 rfl rfl ?_
  refine x_bipush 182 d_M_init_182 (v := (48 : Int32)) (by decide +kernel) ?_
  replace h := gb2_elim h; obtain ⟨v106, mm108, h107, h⟩ := h
  refine x_newL 184 (by decide) rfl (gT_in0 61 rfl) h107 d_M_init_184 ?_
  replace h := gb1_elim h; obtain ⟨mm109, h110, h⟩ := h
  refine x_putF 186 fp_M_76 rfl (g_nA _ _) (g_fA _ _) h110 d_M_init_186 ?_
  refine x_aloadn 189 0 d_M_init_189 rfl rfl ?_
  refine x_sipush 190 d_M_init_190 (v := (200 : Int32)) (by decide +kernel) ?_
  replace h := gb2_elim h; obtain ⟨v111, mm113, h112, h⟩ := h
  refine x_newZ 193 (by decide) rfl (gT_in0 59 rfl) h112 d_M_init_193 ?_
  replace h := gb1_elim h; obtain ⟨mm114, h115, h⟩ := h
  refine x_putF 195 fp_M_79 rfl (g_nA _ _) (g_fA _ _) h115 d_M_init_195 ?_
  cases h
  exact x_return 198 rfl d_M_init_198
theorem k_M_init {b : Nat} {r : Unit} {mm res : gM} (h : F_M_init b mm = some (r, res)) : ∀ (l : Launch) (E : gD), gLe mm res ∧ gMet l E Y_M_init y_M_init [.inr (.inr (some b))] none mm res :=
  fun l E => ⟨(w_M_init (l := l) (E := E) (n0 := 0) (s0 := 0) h).1, x_met (by decide +kernel) rfl rfl rfl (Nat.le_of_ble_eq_true rfl) (w_M_init h)⟩
theorem d_AL_size_0 : decode b_AL_size 0 = .ok (.aload_n 0, 1) := by decide +kernel
theorem d_AL_size_1 : decode b_AL_size 1 = .ok (.getfield 48, 3) := by decide +kernel
theorem d_AL_size_4 : decode b_AL_size 4 = .ok (.ireturn, 1) := by decide +kernel
def F_AL_size (b : Nat) (mm : gM) : Option (Int32 × gM) :=
  gb1 (gfI 9 1 (some b) mm) fun v1 =>
  some (v1, mm)
set_option maxHeartbeats 8000000 in
set_option maxRecDepth 100000 in
theorem w_AL_size {l : Launch} {E : gD} {n0 s0 : Nat} {b : Nat} {r : Int32} {mm res : gM} (h : F_AL_size b mm = some (r, res)) : xX l E Y_AL_size n0 s0 (some (.int r)) res 0 [(0, .inr (.inr (some b)))] [] mm := by
  unfold F_AL_size at h
  refine x_aloadn 0 0 d_AL_size_0 rfl rfl ?_
  replace h := gb1_elim h; obtain ⟨v1, h2, h⟩ := h
  refine x_getI 1 h2 fl_AL_48 d_AL_size_1 ?_
  cases h
  exact x_ireturn 4 rfl d_AL_size_4
theorem k_AL_size {b : Nat} {r : Int32} {mm res : gM} (h : F_AL_size b mm = some (r, res)) : ∀ (l : Launch) (E : gD), gLe mm res ∧ gMet l E Y_AL_size y_AL_size [.inr (.inr (some b))] (some (.int r)) mm res :=
  fun l E => ⟨(w_AL_size (l := l) (E := E) (n0 := 0) (s0 := 0) h).1, x_met (by decide +kernel) rfl rfl rfl (Nat.le_of_ble_eq_true rfl) (w_AL_size h)⟩
theorem d_Blocks_init_0 : decode b_Blocks_init 0 = .ok (.aload_n 0, 1) := by decide +kernel
theorem d_Blocks_init_1 : decode b_Blocks_init 1 = .ok (.invokespecial 3, 3) := by decide +kernel
theorem d_Blocks_init_4 : decode b_Blocks_init 4 = .ok (.aload_n 0, 1) := by decide +kernel
theorem d_Blocks_init_5 : decode b_Blocks_init 5 = .ok (.bipush 6, 2) := by decide +kernel
theorem d_Blocks_init_7 : decode b_Blocks_init 7 = .ok (.newarray .int, 2) := by decide +kernel
theorem d_Blocks_init_9 : decode b_Blocks_init 9 = .ok (.putfield 9, 3) := by decide +kernel
theorem d_Blocks_init_12 : decode b_Blocks_init 12 = .ok (.aload_n 0, 1) := by decide +kernel
theorem d_Blocks_init_13 : decode b_Blocks_init 13 = .ok (.bipush 6, 2) := by decide +kernel
theorem d_Blocks_init_15 : decode b_Blocks_init 15 = .ok (.newarray .int, 2) := by decide +kernel
theorem d_Blocks_init_17 : decode b_Blocks_init 17 = .ok (.putfield 15, 3) := by decide +kernel
theorem d_Blocks_init_20 : decode b_Blocks_init 20 = .ok (.aload_n 0, 1) := by decide +kernel
theorem d_Blocks_init_21 : decode b_Blocks_init 21 = .ok (.bipush 6, 2) := by decide +kernel
theorem d_Blocks_init_23 : decode b_Blocks_init 23 = .ok (.newarray .int, 2) := by decide +kernel
theorem d_Blocks_init_25 : decode b_Blocks_init 25 = .ok (.putfield 18, 3) := by decide +kernel
theorem d_Blocks_init_28 : decode b_Blocks_init 28 = .ok (.aload_n 0, 1) := by decide +kernel
theorem d_Blocks_init_29 : decode b_Blocks_init 29 = .ok (.iconst 0, 1) := by decide +kernel
theorem d_Blocks_init_30 : decode b_Blocks_init 30 = .ok (.putfield 21, 3) := by decide +kernel
theorem d_Blocks_init_33 : decode b_Blocks_init 33 = .ok (.return_, 1) := by decide +kernel
def F_Blocks_init (b : Nat) (mm : gM) : Option (Unit × gM) :=
  gb2 (gnI 0 (6 : Int32) mm) fun v1 mm3 =>
  gb1 (gpV 2 0 (some b) (va_rf v1) mm3) fun mm4 =>
  gb2 (gnI 0 (6 : Int32) mm4) fun v6 mm8 =>
  gb1 (gpV 2 1 (some b) (va_rf v6) mm8) fun mm9 =>
  gb2 (gnI 0 (6 : Int32) mm9) fun v11 mm13 =>
  gb1 (gpV 2 2 (some b) (va_rf v11) mm13) fun mm14 =>
  gb1 (gpV 2 3 (some b) (.int (0 : Int32)) mm14) fun mm16 =>
  some ((), mm16)
set_option maxHeartbeats 8000000 in
set_option maxRecDepth 100000 in
theorem w_Blocks_init {l : Launch} {E : gD} {n0 s0 : Nat} {b : Nat} {r : Unit} {mm res : gM} (h : F_Blocks_init b mm = some (r, res)) : xX l E Y_Blocks_init n0 s0 none res 0 [(0, .inr (.inr (some b)))] [] mm := by
  unfold F_Blocks_init at h
  refine x_aloadn 0 0 d_Blocks_init_0 rfl rfl ?_
  refine x_objinit 1 rfl (gT_in0 95 rfl) (gT_in0 26 rfl) (gT_in0 27 rfl) (by decide) (by decide) d_Blocks_init_1 ?_
  refine x_aloadn 4 0 d_Blocks_init_4 rfl rfl ?_
  refine x_bipush 5 d_Blocks_init_5 (v := (6 : Int32)) (by decide +kernel) ?_
  replace h := gb2_elim h; obtain ⟨v1, mm3, h2, h⟩ := h
  refine x_newI 7 (by decide) rfl (gT_in0 60 rfl) h2 d_Blocks_init_7 ?_
  replace h := gb1_elim h; obtain ⟨mm4, h5, h⟩ := h
  refine x_putF 9 fp_Blocks_9 rfl (g_nA _ _) (g_fA _ _) h5 d_Blocks_init_9 ?_
  refine x_aloadn 12 0 d_Blocks_init_12 rfl rfl ?_
  refine x_bipush 13 d_Blocks_init_13 (v := (6 : Int32)) (by decide +kernel) ?_
  replace h := gb2_elim h; obtain ⟨v6, mm8, h7, h⟩ := h
  refine x_newI 15 (by decide) rfl (gT_in0 60 rfl) h7 d_Blocks_init_15 ?_
  replace h := gb1_elim h; obtain ⟨mm9, h10, h⟩ := h
  refine x_putF 17 fp_Blocks_15 rfl (g_nA _ _) (g_fA _ _) h10 d_Blocks_init_17 ?_
  refine x_aloadn 20 0 d_Blocks_init_20 rfl rfl ?_
  refine x_bipush 21 d_Blocks_init_21 (v := (6 : Int32)) (by decide +kernel) ?_
  replace h := gb2_elim h; obtain ⟨v11, mm13, h12, h⟩ := h
  refine x_newI 23 (by decide) rfl (gT_in0 60 rfl) h12 d_Blocks_init_23 ?_
  replace h := gb1_elim h; obtain ⟨mm14, h15, h⟩ := h
  refine x_putF 25 fp_Blocks_18 rfl (g_nA _ _) (g_fA _ _) h15 d_Blocks_init_25 ?_
  refine x_aloadn 28 0 d_Blocks_init_28 rfl rfl ?_
  refine x_iconst 29 d_Blocks_init_29 (v := (0 : Int32)) (by decide +kernel) ?_
  replace h := gb1_elim h; obtain ⟨mm16, h17, h⟩ := h
  refine x_putV 30 fp_Blocks_21 rfl rfl h17 d_Blocks_init_30 ?_
  cases h
  exact x_return 33 rfl d_Blocks_init_33
theorem k_Blocks_init {b : Nat} {r : Unit} {mm res : gM} (h : F_Blocks_init b mm = some (r, res)) : ∀ (l : Launch) (E : gD), gLe mm res ∧ gMet l E Y_Blocks_init y_Blocks_init [.inr (.inr (some b))] none mm res :=
  fun l E => ⟨(w_Blocks_init (l := l) (E := E) (n0 := 0) (s0 := 0) h).1, x_met (by decide +kernel) rfl rfl rfl (Nat.le_of_ble_eq_true rfl) (w_Blocks_init h)⟩
theorem d_Clock_init_0 : decode b_Clock_init 0 = .ok (.aload_n 0, 1) := by decide +kernel
theorem d_Clock_init_1 : decode b_Clock_init 1 = .ok (.invokespecial 3, 3) := by decide +kernel
theorem d_Clock_init_4 : decode b_Clock_init 4 = .ok (.aload_n 0, 1) := by decide +kernel
theorem d_Clock_init_5 : decode b_Clock_init 5 = .ok (.bipush 6, 2) := by decide +kernel
theorem d_Clock_init_7 : decode b_Clock_init 7 = .ok (.newarray .long, 2) := by decide +kernel
theorem d_Clock_init_9 : decode b_Clock_init 9 = .ok (.putfield 9, 3) := by decide +kernel
theorem d_Clock_init_12 : decode b_Clock_init 12 = .ok (.aload_n 0, 1) := by decide +kernel
theorem d_Clock_init_13 : decode b_Clock_init 13 = .ok (.bipush 6, 2) := by decide +kernel
theorem d_Clock_init_15 : decode b_Clock_init 15 = .ok (.newarray .long, 2) := by decide +kernel
theorem d_Clock_init_17 : decode b_Clock_init 17 = .ok (.putfield 15, 3) := by decide +kernel
theorem d_Clock_init_20 : decode b_Clock_init 20 = .ok (.aload_n 0, 1) := by decide +kernel
theorem d_Clock_init_21 : decode b_Clock_init 21 = .ok (.iconst 0, 1) := by decide +kernel
theorem d_Clock_init_22 : decode b_Clock_init 22 = .ok (.putfield 18, 3) := by decide +kernel
theorem d_Clock_init_25 : decode b_Clock_init 25 = .ok (.return_, 1) := by decide +kernel
def F_Clock_init (b : Nat) (mm : gM) : Option (Unit × gM) :=
  gb2 (gnL 1 (6 : Int32) mm) fun v1 mm3 =>
  gb1 (gpV 3 0 (some b) (va_rf v1) mm3) fun mm4 =>
  gb2 (gnL 1 (6 : Int32) mm4) fun v6 mm8 =>
  gb1 (gpV 3 1 (some b) (va_rf v6) mm8) fun mm9 =>
  gb1 (gpV 3 2 (some b) (.int (0 : Int32)) mm9) fun mm11 =>
  some ((), mm11)
set_option maxHeartbeats 8000000 in
set_option maxRecDepth 100000 in
theorem w_Clock_init {l : Launch} {E : gD} {n0 s0 : Nat} {b : Nat} {r : Unit} {mm res : gM} (h : F_Clock_init b mm = some (r, res)) : xX l E Y_Clock_init n0 s0 none res 0 [(0, .inr (.inr (some b)))] [] mm := by
  unfold F_Clock_init at h
  refine x_aloadn 0 0 d_Clock_init_0 rfl rfl ?_
  refine x_objinit 1 rfl (gT_in0 108 rfl) (gT_in0 26 rfl) (gT_in0 27 rfl) (by decide) (by decide) d_Clock_init_1 ?_
  refine x_aloadn 4 0 d_Clock_init_4 rfl rfl ?_
  refine x_bipush 5 d_Clock_init_5 (v := (6 : Int32)) (by decide +kernel) ?_
  replace h := gb2_elim h; obtain ⟨v1, mm3, h2, h⟩ := h
  refine x_newL 7 (by decide) rfl (gT_in0 61 rfl) h2 d_Clock_init_7 ?_
  replace h := gb1_elim h; obtain ⟨mm4, h5, h⟩ := h
  refine x_putF 9 fp_Clock_9 rfl (g_nA _ _) (g_fA _ _) h5 d_Clock_init_9 ?_
  refine x_aloadn 12 0 d_Clock_init_12 rfl rfl ?_
  refine x_bipush 13 d_Clock_init_13 (v := (6 : Int32)) (by decide +kernel) ?_
  replace h := gb2_elim h; obtain ⟨v6, mm8, h7, h⟩ := h
  refine x_newL 15 (by decide) rfl (gT_in0 61 rfl) h7 d_Clock_init_15 ?_
  replace h := gb1_elim h; obtain ⟨mm9, h10, h⟩ := h
  refine x_putF 17 fp_Clock_15 rfl (g_nA _ _) (g_fA _ _) h10 d_Clock_init_17 ?_
  refine x_aloadn 20 0 d_Clock_init_20 rfl rfl ?_
  refine x_iconst 21 d_Clock_init_21 (v := (0 : Int32)) (by decide +kernel) ?_
  replace h := gb1_elim h; obtain ⟨mm11, h12, h⟩ := h
  refine x_putV 22 fp_Clock_18 rfl rfl h12 d_Clock_init_22 ?_
  cases h
  exact x_return 25 rfl d_Clock_init_25
theorem k_Clock_init {b : Nat} {r : Unit} {mm res : gM} (h : F_Clock_init b mm = some (r, res)) : ∀ (l : Launch) (E : gD), gLe mm res ∧ gMet l E Y_Clock_init y_Clock_init [.inr (.inr (some b))] none mm res :=
  fun l E => ⟨(w_Clock_init (l := l) (E := E) (n0 := 0) (s0 := 0) h).1, x_met (by decide +kernel) rfl rfl rfl (Nat.le_of_ble_eq_true rfl) (w_Clock_init h)⟩
end
