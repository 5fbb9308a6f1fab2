abbrev y_AbstractCollection_init : MethodName := ⟨"java/util/AbstractCollection", "<init>", "()V"⟩
abbrev b_AbstractCollection_init : ByteArray := prog_17_method_1_code
abbrev Y_AbstractCollection_init : gY := ("java/util/AbstractCollection", "<init>", b_AbstractCollection_init, Cond.code y_AbstractCollection_init b_AbstractCollection_init 1 (Option.none : Option Jvm.ClassFile.FieldType), 1, (Option.none : Option Jvm.ClassFile.FieldType), 1, 60)
abbrev y_AbstractList_init : MethodName := ⟨"java/util/AbstractList", "<init>", "()V"⟩
abbrev b_AbstractList_init : ByteArray := prog_18_method_1_code
abbrev Y_AbstractList_init : gY := ("java/util/AbstractList", "<init>", b_AbstractList_init, Cond.code y_AbstractList_init b_AbstractList_init 1 (Option.none : Option Jvm.ClassFile.FieldType), 1, (Option.none : Option Jvm.ClassFile.FieldType), 2, 80)
abbrev y_AL_init : MethodName := ⟨"java/util/ArrayList", "<init>", "()V"⟩
abbrev b_AL_init : ByteArray := prog_19_method_2_code
abbrev Y_AL_init : gY := ("java/util/ArrayList", "<init>", b_AL_init, Cond.code y_AL_init b_AL_init 1 (Option.none : Option Jvm.ClassFile.FieldType), 1, (Option.none : Option Jvm.ClassFile.FieldType), 3, 100)
abbrev y_Current_init : MethodName := ⟨"ShipSets$Current", "<init>", "()V"⟩
abbrev b_Current_init : ByteArray := prog_4_method_1_code
abbrev Y_Current_init : gY := ("ShipSets$Current", "<init>", b_Current_init, Cond.code y_Current_init b_Current_init 1 (Option.none : Option Jvm.ClassFile.FieldType), 1, (Option.none : Option Jvm.ClassFile.FieldType), 1, 60)
abbrev y_S_init : MethodName := ⟨"ShipSets", "<init>", "()V"⟩
abbrev b_S_init : ByteArray := prog_1_method_1_code
abbrev Y_S_init : gY := ("ShipSets", "<init>", b_S_init, Cond.code y_S_init b_S_init 1 (Option.none : Option Jvm.ClassFile.FieldType), 1, (Option.none : Option Jvm.ClassFile.FieldType), 4, 120)
abbrev y_M_init : MethodName := ⟨"ShipSetsModel", "<init>", "()V"⟩
abbrev b_M_init : ByteArray := prog_11_method_1_code
abbrev Y_M_init : gY := ("ShipSetsModel", "<init>", b_M_init, Cond.code y_M_init b_M_init 1 (Option.none : Option Jvm.ClassFile.FieldType), 1, (Option.none : Option Jvm.ClassFile.FieldType), 1, 60)
abbrev y_AL_size : MethodName := ⟨"java/util/ArrayList", "size", "()I"⟩
abbrev b_AL_size : ByteArray := prog_19_method_8_code
abbrev Y_AL_size : gY := ("java/util/ArrayList", "size", b_AL_size, Cond.code y_AL_size b_AL_size 1 (Option.some Jvm.ClassFile.FieldType.int), 1, (Option.some Jvm.ClassFile.FieldType.int), 0, 0)
abbrev y_Blocks_init : MethodName := ⟨"ShipSets$Blocks", "<init>", "()V"⟩
abbrev b_Blocks_init : ByteArray := prog_2_method_1_code
abbrev Y_Blocks_init : gY := ("ShipSets$Blocks", "<init>", b_Blocks_init, Cond.code y_Blocks_init b_Blocks_init 1 (Option.none : Option Jvm.ClassFile.FieldType), 1, (Option.none : Option Jvm.ClassFile.FieldType), 1, 60)
abbrev y_Clock_init : MethodName := ⟨"ShipSets$Clock", "<init>", "()V"⟩
abbrev b_Clock_init : ByteArray := prog_3_method_1_code
abbrev Y_Clock_init : gY := ("ShipSets$Clock", "<init>", b_Clock_init, Cond.code y_Clock_init b_Clock_init 1 (Option.none : Option Jvm.ClassFile.FieldType), 1, (Option.none : Option Jvm.ClassFile.FieldType), 1, 60)
abbrev y_Teller_init : MethodName := ⟨"ShipSets$Teller", "<init>", "()V"⟩
abbrev b_Teller_init : ByteArray := prog_8_method_1_code
abbrev Y_Teller_init : gY := ("ShipSets$Teller", "<init>", b_Teller_init, Cond.code y_Teller_init b_Teller_init 1 (Option.none : Option Jvm.ClassFile.FieldType), 1, (Option.none : Option Jvm.ClassFile.FieldType), 4, 120)
abbrev y_ArraysSupport_hugeLength : MethodName := ⟨"jdk/internal/util/ArraysSupport", "hugeLength", "(II)I"⟩
abbrev b_ArraysSupport_hugeLength : ByteArray := prog_26_method_28_code
abbrev Y_ArraysSupport_hugeLength : gY := ("jdk/internal/util/ArraysSupport", "hugeLength", b_ArraysSupport_hugeLength, Cond.code y_ArraysSupport_hugeLength b_ArraysSupport_hugeLength 3 (Option.some Jvm.ClassFile.FieldType.int), 3, (Option.some Jvm.ClassFile.FieldType.int), 0, 0)
abbrev y_ArraysSupport_newLength : MethodName := ⟨"jdk/internal/util/ArraysSupport", "newLength", "(III)I"⟩
abbrev b_ArraysSupport_newLength : ByteArray := prog_26_method_27_code
abbrev Y_ArraysSupport_newLength : gY := ("jdk/internal/util/ArraysSupport", "newLength", b_ArraysSupport_newLength, Cond.code y_ArraysSupport_newLength b_ArraysSupport_newLength 4 (Option.some Jvm.ClassFile.FieldType.int), 4, (Option.some Jvm.ClassFile.FieldType.int), 1, 60)
abbrev y_Arrays_copyOf2 : MethodName := ⟨"java/util/Arrays", "copyOf", "([Ljava/lang/Object;ILjava/lang/Class;)[Ljava/lang/Object;"⟩
abbrev b_Arrays_copyOf2 : ByteArray := prog_20_method_120_code
abbrev Y_Arrays_copyOf2 : gY := ("java/util/Arrays", "copyOf", b_Arrays_copyOf2, Cond.code y_Arrays_copyOf2 b_Arrays_copyOf2 4 (Option.some (Jvm.ClassFile.FieldType.array (Jvm.ClassFile.FieldType.object "java/lang/Object"))), 4, (Option.some (Jvm.ClassFile.FieldType.array (Jvm.ClassFile.FieldType.object "java/lang/Object"))), 1, 60)
abbrev y_Arrays_copyOf : MethodName := ⟨"java/util/Arrays", "copyOf", "([Ljava/lang/Object;I)[Ljava/lang/Object;"⟩
abbrev b_Arrays_copyOf : ByteArray := prog_20_method_119_code
abbrev Y_Arrays_copyOf : gY := ("java/util/Arrays", "copyOf", b_Arrays_copyOf, Cond.code y_Arrays_copyOf b_Arrays_copyOf 2 (Option.some (Jvm.ClassFile.FieldType.array (Jvm.ClassFile.FieldType.object "java/lang/Object"))), 2, (Option.some (Jvm.ClassFile.FieldType.array (Jvm.ClassFile.FieldType.object "java/lang/Object"))), 2, 83)
abbrev y_AL_grow2 : MethodName := ⟨"java/util/ArrayList", "grow", "(I)[Ljava/lang/Object;"⟩
abbrev b_AL_grow2 : ByteArray := prog_19_method_6_code
abbrev Y_AL_grow2 : gY := ("java/util/ArrayList", "grow", b_AL_grow2, Cond.code y_AL_grow2 b_AL_grow2 4 (Option.some (Jvm.ClassFile.FieldType.array (Jvm.ClassFile.FieldType.object "java/lang/Object"))), 4, (Option.some (Jvm.ClassFile.FieldType.array (Jvm.ClassFile.FieldType.object "java/lang/Object"))), 3, 104)
abbrev y_AL_grow : MethodName := ⟨"java/util/ArrayList", "grow", "()[Ljava/lang/Object;"⟩
abbrev b_AL_grow : ByteArray := prog_19_method_7_code
abbrev Y_AL_grow : gY := ("java/util/ArrayList", "grow", b_AL_grow, Cond.code y_AL_grow b_AL_grow 1 (Option.some (Jvm.ClassFile.FieldType.array (Jvm.ClassFile.FieldType.object "java/lang/Object"))), 1, (Option.some (Jvm.ClassFile.FieldType.array (Jvm.ClassFile.FieldType.object "java/lang/Object"))), 4, 127)
abbrev y_AL_add2 : MethodName := ⟨"java/util/ArrayList", "add", "(Ljava/lang/Object;[Ljava/lang/Object;I)V"⟩
abbrev b_AL_add2 : ByteArray := prog_19_method_24_code
abbrev Y_AL_add2 : gY := ("java/util/ArrayList", "add", b_AL_add2, Cond.code y_AL_add2 b_AL_add2 4 (Option.none : Option Jvm.ClassFile.FieldType), 4, (Option.none : Option Jvm.ClassFile.FieldType), 5, 147)
abbrev y_AL_add : MethodName := ⟨"java/util/ArrayList", "add", "(Ljava/lang/Object;)Z"⟩
abbrev b_AL_add : ByteArray := prog_19_method_25_code
abbrev Y_AL_add : gY := ("java/util/ArrayList", "add", b_AL_add, Cond.code y_AL_add b_AL_add 2 (Option.some Jvm.ClassFile.FieldType.boolean), 2, (Option.some Jvm.ClassFile.FieldType.boolean), 6, 170)
abbrev y_S_teller : MethodName := ⟨"ShipSets", "teller", "()I"⟩
abbrev b_S_teller : ByteArray := prog_1_method_2_code
abbrev Y_S_teller : gY := ("ShipSets", "teller", b_S_teller, Cond.code y_S_teller b_S_teller 1 (Option.some Jvm.ClassFile.FieldType.int), 1, (Option.some Jvm.ClassFile.FieldType.int), 7, 191)
abbrev y_M_teller : MethodName := ⟨"ShipSetsModel", "teller", "()I"⟩
abbrev b_M_teller : ByteArray := prog_11_method_6_code
abbrev Y_M_teller : gY := ("ShipSetsModel", "teller", b_M_teller, Cond.code y_M_teller b_M_teller 1 (Option.some Jvm.ClassFile.FieldType.int), 1, (Option.some Jvm.ClassFile.FieldType.int), 0, 0)
abbrev y_Preconditions_checkIndex : MethodName := ⟨"jdk/internal/util/Preconditions", "checkIndex", "(IILjava/util/function/BiFunction;)I"⟩
abbrev b_Preconditions_checkIndex : ByteArray := prog_27_method_11_code
abbrev Y_Preconditions_checkIndex : gY := ("jdk/internal/util/Preconditions", "checkIndex", b_Preconditions_checkIndex, Cond.code y_Preconditions_checkIndex b_Preconditions_checkIndex 3 (Option.some Jvm.ClassFile.FieldType.int), 3, (Option.some Jvm.ClassFile.FieldType.int), 0, 0)
abbrev y_Objects_checkIndex : MethodName := ⟨"java/util/Objects", "checkIndex", "(II)I"⟩
abbrev b_Objects_checkIndex : ByteArray := prog_23_method_17_code
abbrev Y_Objects_checkIndex : gY := ("java/util/Objects", "checkIndex", b_Objects_checkIndex, Cond.code y_Objects_checkIndex b_Objects_checkIndex 2 (Option.some Jvm.ClassFile.FieldType.int), 2, (Option.some Jvm.ClassFile.FieldType.int), 1, 22)
abbrev y_AL_elementData : MethodName := ⟨"java/util/ArrayList", "elementData", "(I)Ljava/lang/Object;"⟩
abbrev b_AL_elementData : ByteArray := prog_19_method_18_code
abbrev Y_AL_elementData : gY := ("java/util/ArrayList", "elementData", b_AL_elementData, Cond.code y_AL_elementData b_AL_elementData 2 (Option.some (Jvm.ClassFile.FieldType.object "java/lang/Object")), 2, (Option.some (Jvm.ClassFile.FieldType.object "java/lang/Object")), 0, 0)
abbrev y_AL_get : MethodName := ⟨"java/util/ArrayList", "get", "(I)Ljava/lang/Object;"⟩
abbrev b_AL_get : ByteArray := prog_19_method_20_code
abbrev Y_AL_get : gY := ("java/util/ArrayList", "get", b_AL_get, Cond.code y_AL_get b_AL_get 2 (Option.some (Jvm.ClassFile.FieldType.object "java/lang/Object")), 2, (Option.some (Jvm.ClassFile.FieldType.object "java/lang/Object")), 2, 43)
abbrev y_S_tellerAt : MethodName := ⟨"ShipSets", "tellerAt", "(I)LShipSets$Teller;"⟩
abbrev b_S_tellerAt : ByteArray := prog_1_method_27_code
abbrev Y_S_tellerAt : gY := ("ShipSets", "tellerAt", b_S_tellerAt, Cond.code y_S_tellerAt b_S_tellerAt 2 (Option.some (Jvm.ClassFile.FieldType.object "ShipSets$Teller")), 2, (Option.some (Jvm.ClassFile.FieldType.object "ShipSets$Teller")), 3, 64)
abbrev y_S_isKind : MethodName := ⟨"ShipSets", "isKind", "(I)Z"⟩
abbrev b_S_isKind : ByteArray := prog_1_method_21_code
abbrev Y_S_isKind : gY := ("ShipSets", "isKind", b_S_isKind, Cond.code y_S_isKind b_S_isKind 1 (Option.some Jvm.ClassFile.FieldType.boolean), 1, (Option.some Jvm.ClassFile.FieldType.boolean), 0, 0)
abbrev y_S_cellOf : MethodName := ⟨"ShipSets", "cellOf", "(II)I"⟩
abbrev b_S_cellOf : ByteArray := prog_1_method_26_code
abbrev Y_S_cellOf : gY := ("ShipSets", "cellOf", b_S_cellOf, Cond.code y_S_cellOf b_S_cellOf 2 (Option.some Jvm.ClassFile.FieldType.int), 2, (Option.some Jvm.ClassFile.FieldType.int), 1, 20)
abbrev y_S_isNumber : MethodName := ⟨"ShipSets", "isNumber", "(I)Z"⟩
abbrev b_S_isNumber : ByteArray := prog_1_method_20_code
abbrev Y_S_isNumber : gY := ("ShipSets", "isNumber", b_S_isNumber, Cond.code y_S_isNumber b_S_isNumber 1 (Option.some Jvm.ClassFile.FieldType.boolean), 1, (Option.some Jvm.ClassFile.FieldType.boolean), 0, 0)
abbrev y_S_isValue : MethodName := ⟨"ShipSets", "isValue", "(J)Z"⟩
abbrev b_S_isValue : ByteArray := prog_1_method_22_code
abbrev Y_S_isValue : gY := ("ShipSets", "isValue", b_S_isValue, Cond.code y_S_isValue b_S_isValue 2 (Option.some Jvm.ClassFile.FieldType.boolean), 2, (Option.some Jvm.ClassFile.FieldType.boolean), 0, 0)
abbrev y_S_isDay : MethodName := ⟨"ShipSets", "isDay", "(I)Z"⟩
abbrev b_S_isDay : ByteArray := prog_1_method_23_code
abbrev Y_S_isDay : gY := ("ShipSets", "isDay", b_S_isDay, Cond.code y_S_isDay b_S_isDay 1 (Option.some Jvm.ClassFile.FieldType.boolean), 1, (Option.some Jvm.ClassFile.FieldType.boolean), 0, 0)
abbrev y_Teller_placeOf : MethodName := ⟨"ShipSets$Teller", "placeOf", "(I)I"⟩
abbrev b_Teller_placeOf : ByteArray := prog_8_method_2_code
abbrev Y_Teller_placeOf : gY := ("ShipSets$Teller", "placeOf", b_Teller_placeOf, Cond.code y_Teller_placeOf b_Teller_placeOf 5 (Option.some Jvm.ClassFile.FieldType.int), 5, (Option.some Jvm.ClassFile.FieldType.int), 3, 64)
abbrev y_Teller_toldWith : MethodName := ⟨"ShipSets$Teller", "toldWith", "(I)LShipSets$Telling;"⟩
abbrev b_Teller_toldWith : ByteArray := prog_8_method_3_code
abbrev Y_Teller_toldWith : gY := ("ShipSets$Teller", "toldWith", b_Teller_toldWith, Cond.code y_Teller_toldWith b_Teller_toldWith 4 (Option.some (Jvm.ClassFile.FieldType.object "ShipSets$Telling")), 4, (Option.some (Jvm.ClassFile.FieldType.object "ShipSets$Telling")), 4, 88)
abbrev y_Telling_says : MethodName := ⟨"ShipSets$Telling", "says", "(IJI)Z"⟩
abbrev b_Telling_says : ByteArray := prog_9_method_2_code
abbrev Y_Telling_says : gY := ("ShipSets$Telling", "says", b_Telling_says, Cond.code y_Telling_says b_Telling_says 5 (Option.some Jvm.ClassFile.FieldType.boolean), 5, (Option.some Jvm.ClassFile.FieldType.boolean), 0, 0)
abbrev y_Telling_init : MethodName := ⟨"ShipSets$Telling", "<init>", "(IIIIJILShipSets$Telling;)V"⟩
abbrev b_Telling_init : ByteArray := prog_9_method_1_code
abbrev Y_Telling_init : gY := ("ShipSets$Telling", "<init>", b_Telling_init, Cond.code y_Telling_init b_Telling_init 9 (Option.none : Option Jvm.ClassFile.FieldType), 9, (Option.none : Option Jvm.ClassFile.FieldType), 1, 60)
abbrev y_AL_rangeCheckForAdd : MethodName := ⟨"java/util/ArrayList", "rangeCheckForAdd", "(I)V"⟩
abbrev b_AL_rangeCheckForAdd : ByteArray := prog_19_method_45_code
abbrev Y_AL_rangeCheckForAdd : gY := ("java/util/ArrayList", "rangeCheckForAdd", b_AL_rangeCheckForAdd, Cond.code y_AL_rangeCheckForAdd b_AL_rangeCheckForAdd 2 (Option.none : Option Jvm.ClassFile.FieldType), 2, (Option.none : Option Jvm.ClassFile.FieldType), 0, 0)
abbrev y_AL_add3 : MethodName := ⟨"java/util/ArrayList", "add", "(ILjava/lang/Object;)V"⟩
abbrev b_AL_add3 : ByteArray := prog_19_method_26_code
abbrev Y_AL_add3 : gY := ("java/util/ArrayList", "add", b_AL_add3, Cond.code y_AL_add3 b_AL_add3 5 (Option.none : Option Jvm.ClassFile.FieldType), 5, (Option.none : Option Jvm.ClassFile.FieldType), 5, 147)
abbrev y_Teller_keep : MethodName := ⟨"ShipSets$Teller", "keep", "(LShipSets$Telling;)V"⟩
abbrev b_Teller_keep : ByteArray := prog_8_method_4_code
abbrev Y_Teller_keep : gY := ("ShipSets$Teller", "keep", b_Teller_keep, Cond.code y_Teller_keep b_Teller_keep 2 (Option.none : Option Jvm.ClassFile.FieldType), 2, (Option.none : Option Jvm.ClassFile.FieldType), 6, 171)
abbrev y_S_tell : MethodName := ⟨"ShipSets", "tell", "(IIIIJI)I"⟩
abbrev b_S_tell : ByteArray := prog_1_method_3_code
abbrev Y_S_tell : gY := ("ShipSets", "tell", b_S_tell, Cond.code y_S_tell b_S_tell 12 (Option.some Jvm.ClassFile.FieldType.int), 12, (Option.some Jvm.ClassFile.FieldType.int), 7, 192)
abbrev y_M_isTeller : MethodName := ⟨"ShipSetsModel", "isTeller", "(I)Z"⟩
abbrev b_M_isTeller : ByteArray := prog_11_method_4_code
abbrev Y_M_isTeller : gY := ("ShipSetsModel", "isTeller", b_M_isTeller, Cond.code y_M_isTeller b_M_isTeller 2 (Option.some Jvm.ClassFile.FieldType.boolean), 2, (Option.some Jvm.ClassFile.FieldType.boolean), 0, 0)
abbrev y_M_isIn : MethodName := ⟨"ShipSetsModel", "isIn", "(JJJ)Z"⟩
abbrev b_M_isIn : ByteArray := prog_11_method_3_code
abbrev Y_M_isIn : gY := ("ShipSetsModel", "isIn", b_M_isIn, Cond.code y_M_isIn b_M_isIn 6 (Option.some Jvm.ClassFile.FieldType.boolean), 6, (Option.some Jvm.ClassFile.FieldType.boolean), 0, 0)
abbrev y_M_told : MethodName := ⟨"ShipSetsModel", "told", "(II)I"⟩
abbrev b_M_told : ByteArray := prog_11_method_7_code
abbrev Y_M_told : gY := ("ShipSetsModel", "told", b_M_told, Cond.code y_M_told b_M_told 5 (Option.some Jvm.ClassFile.FieldType.int), 5, (Option.some Jvm.ClassFile.FieldType.int), 0, 0)
abbrev y_M_tell : MethodName := ⟨"ShipSetsModel", "tell", "(IIIIJI)I"⟩
abbrev b_M_tell : ByteArray := prog_11_method_8_code
abbrev Y_M_tell : gY := ("ShipSetsModel", "tell", b_M_tell, Cond.code y_M_tell b_M_tell 10 (Option.some Jvm.ClassFile.FieldType.int), 10, (Option.some Jvm.ClassFile.FieldType.int), 1, 25)
abbrev y_Holding_init : MethodName := ⟨"ShipSets$Holding", "<init>", "()V"⟩
abbrev b_Holding_init : ByteArray := prog_5_method_1_code
abbrev Y_Holding_init : gY := ("ShipSets$Holding", "<init>", b_Holding_init, Cond.code y_Holding_init b_Holding_init 1 (Option.none : Option Jvm.ClassFile.FieldType), 1, (Option.none : Option Jvm.ClassFile.FieldType), 1, 60)
abbrev y_ShipSet_init : MethodName := ⟨"ShipSets$ShipSet", "<init>", "()V"⟩
abbrev b_ShipSet_init : ByteArray := prog_7_method_1_code
abbrev Y_ShipSet_init : gY := ("ShipSets$ShipSet", "<init>", b_ShipSet_init, Cond.code y_ShipSet_init b_ShipSet_init 1 (Option.none : Option Jvm.ClassFile.FieldType), 1, (Option.none : Option Jvm.ClassFile.FieldType), 2, 80)
abbrev y_S_set : MethodName := ⟨"ShipSets", "set", "(I)I"⟩
abbrev b_S_set : ByteArray := prog_1_method_4_code
abbrev Y_S_set : gY := ("ShipSets", "set", b_S_set, Cond.code y_S_set b_S_set 4 (Option.some Jvm.ClassFile.FieldType.int), 4, (Option.some Jvm.ClassFile.FieldType.int), 7, 191)
abbrev y_M_set : MethodName := ⟨"ShipSetsModel", "set", "(I)I"⟩
abbrev b_M_set : ByteArray := prog_11_method_10_code
abbrev Y_M_set : gY := ("ShipSetsModel", "set", b_M_set, Cond.code y_M_set b_M_set 3 (Option.some Jvm.ClassFile.FieldType.int), 3, (Option.some Jvm.ClassFile.FieldType.int), 1, 21)
abbrev y_S_setAt : MethodName := ⟨"ShipSets", "setAt", "(I)LShipSets$ShipSet;"⟩
abbrev b_S_setAt : ByteArray := prog_1_method_28_code
abbrev Y_S_setAt : gY := ("ShipSets", "setAt", b_S_setAt, Cond.code y_S_setAt b_S_setAt 2 (Option.some (Jvm.ClassFile.FieldType.object "ShipSets$ShipSet")), 2, (Option.some (Jvm.ClassFile.FieldType.object "ShipSets$ShipSet")), 3, 64)
abbrev y_Holding_takeAllOf : MethodName := ⟨"ShipSets$Holding", "takeAllOf", "(LShipSets$Holding;)V"⟩
abbrev b_Holding_takeAllOf : ByteArray := prog_5_method_5_code
abbrev Y_Holding_takeAllOf : gY := ("ShipSets$Holding", "takeAllOf", b_Holding_takeAllOf, Cond.code y_Holding_takeAllOf b_Holding_takeAllOf 3 (Option.none : Option Jvm.ClassFile.FieldType), 3, (Option.none : Option Jvm.ClassFile.FieldType), 1, 60)
abbrev y_Arrays_fill : MethodName := ⟨"java/util/Arrays", "fill", "([II)V"⟩
abbrev b_Arrays_fill : ByteArray := prog_20_method_103_code
abbrev Y_Arrays_fill : gY := ("java/util/Arrays", "fill", b_Arrays_fill, Cond.code y_Arrays_fill b_Arrays_fill 4 (Option.none : Option Jvm.ClassFile.FieldType), 4, (Option.none : Option Jvm.ClassFile.FieldType), 0, 0)
abbrev y_Current_clear : MethodName := ⟨"ShipSets$Current", "clear", "()V"⟩
abbrev b_Current_clear : ByteArray := prog_4_method_2_code
abbrev Y_Current_clear : gY := ("ShipSets$Current", "clear", b_Current_clear, Cond.code y_Current_clear b_Current_clear 1 (Option.none : Option Jvm.ClassFile.FieldType), 1, (Option.none : Option Jvm.ClassFile.FieldType), 1, 23)
abbrev y_Holding_has : MethodName := ⟨"ShipSets$Holding", "has", "(LShipSets$Telling;)Z"⟩
abbrev b_Holding_has : ByteArray := prog_5_method_2_code
abbrev Y_Holding_has : gY := ("ShipSets$Holding", "has", b_Holding_has, Cond.code y_Holding_has b_Holding_has 2 (Option.some Jvm.ClassFile.FieldType.boolean), 2, (Option.some Jvm.ClassFile.FieldType.boolean), 0, 0)
abbrev y_Current_offer : MethodName := ⟨"ShipSets$Current", "offer", "(LShipSets$Telling;)V"⟩
abbrev b_Current_offer : ByteArray := prog_4_method_3_code
abbrev Y_Current_offer : gY := ("ShipSets$Current", "offer", b_Current_offer, Cond.code y_Current_offer b_Current_offer 2 (Option.none : Option Jvm.ClassFile.FieldType), 2, (Option.none : Option Jvm.ClassFile.FieldType), 0, 0)
abbrev y_S_findCurrent : MethodName := ⟨"ShipSets", "findCurrent", "(LShipSets$Holding;II)V"⟩
abbrev b_S_findCurrent : ByteArray := prog_1_method_29_code
abbrev Y_S_findCurrent : gY := ("ShipSets", "findCurrent", b_S_findCurrent, Cond.code y_S_findCurrent b_S_findCurrent 5 (Option.none : Option Jvm.ClassFile.FieldType), 5, (Option.none : Option Jvm.ClassFile.FieldType), 2, 43)
abbrev y_Current_has : MethodName := ⟨"ShipSets$Current", "has", "(I)Z"⟩
abbrev b_Current_has : ByteArray := prog_4_method_4_code
abbrev Y_Current_has : gY := ("ShipSets$Current", "has", b_Current_has, Cond.code y_Current_has b_Current_has 2 (Option.some Jvm.ClassFile.FieldType.boolean), 2, (Option.some Jvm.ClassFile.FieldType.boolean), 0, 0)
abbrev y_Current_commonValue : MethodName := ⟨"ShipSets$Current", "commonValue", "()J"⟩
abbrev b_Current_commonValue : ByteArray := prog_4_method_7_code
abbrev Y_Current_commonValue : gY := ("ShipSets$Current", "commonValue", b_Current_commonValue, Cond.code y_Current_commonValue b_Current_commonValue 4 (Option.some Jvm.ClassFile.FieldType.long), 4, (Option.some Jvm.ClassFile.FieldType.long), 1, 21)
abbrev y_Holding_hasSettling : MethodName := ⟨"ShipSets$Holding", "hasSettling", "(I)Z"⟩
abbrev b_Holding_hasSettling : ByteArray := prog_5_method_3_code
abbrev Y_Holding_hasSettling : gY := ("ShipSets$Holding", "hasSettling", b_Holding_hasSettling, Cond.code y_Holding_hasSettling b_Holding_hasSettling 2 (Option.some Jvm.ClassFile.FieldType.boolean), 2, (Option.some Jvm.ClassFile.FieldType.boolean), 0, 0)
abbrev y_Settling_isMadeFor : MethodName := ⟨"ShipSets$Settling", "isMadeFor", "(ILShipSets$Current;)Z"⟩
abbrev b_Settling_isMadeFor : ByteArray := prog_6_method_2_code
abbrev Y_Settling_isMadeFor : gY := ("ShipSets$Settling", "isMadeFor", b_Settling_isMadeFor, Cond.code y_Settling_isMadeFor b_Settling_isMadeFor 4 (Option.some Jvm.ClassFile.FieldType.boolean), 4, (Option.some Jvm.ClassFile.FieldType.boolean), 0, 0)
abbrev y_Current_valueBy : MethodName := ⟨"ShipSets$Current", "valueBy", "(I)J"⟩
abbrev b_Current_valueBy : ByteArray := prog_4_method_5_code
abbrev Y_Current_valueBy : gY := ("ShipSets$Current", "valueBy", b_Current_valueBy, Cond.code y_Current_valueBy b_Current_valueBy 2 (Option.some Jvm.ClassFile.FieldType.long), 2, (Option.some Jvm.ClassFile.FieldType.long), 1, 21)
abbrev y_S_settledValue : MethodName := ⟨"ShipSets", "settledValue", "(LShipSets$Holding;I)J"⟩
abbrev b_S_settledValue : ByteArray := prog_1_method_31_code
abbrev Y_S_settledValue : gY := ("ShipSets", "settledValue", b_S_settledValue, Cond.code y_S_settledValue b_S_settledValue 5 (Option.some Jvm.ClassFile.FieldType.long), 5, (Option.some Jvm.ClassFile.FieldType.long), 3, 64)
abbrev y_S_valueOn : MethodName := ⟨"ShipSets", "valueOn", "(LShipSets$Holding;II)J"⟩
abbrev b_S_valueOn : ByteArray := prog_1_method_30_code
abbrev Y_S_valueOn : gY := ("ShipSets", "valueOn", b_S_valueOn, Cond.code y_S_valueOn b_S_valueOn 6 (Option.some Jvm.ClassFile.FieldType.long), 6, (Option.some Jvm.ClassFile.FieldType.long), 4, 88)
abbrev y_Current_count : MethodName := ⟨"ShipSets$Current", "count", "()I"⟩
abbrev b_Current_count : ByteArray := prog_4_method_6_code
abbrev Y_Current_count : gY := ("ShipSets$Current", "count", b_Current_count, Cond.code y_Current_count b_Current_count 3 (Option.some Jvm.ClassFile.FieldType.int), 3, (Option.some Jvm.ClassFile.FieldType.int), 1, 21)
abbrev y_S_isInConflict : MethodName := ⟨"ShipSets", "isInConflict", "(LShipSets$Holding;I)Z"⟩
abbrev b_S_isInConflict : ByteArray := prog_1_method_32_code
abbrev Y_S_isInConflict : gY := ("ShipSets", "isInConflict", b_S_isInConflict, Cond.code y_S_isInConflict b_S_isInConflict 5 (Option.some Jvm.ClassFile.FieldType.boolean), 5, (Option.some Jvm.ClassFile.FieldType.boolean), 5, 113)
abbrev y_S_countConflicts : MethodName := ⟨"ShipSets", "countConflicts", "(LShipSets$Holding;)I"⟩
abbrev b_S_countConflicts : ByteArray := prog_1_method_33_code
abbrev Y_S_countConflicts : gY := ("ShipSets", "countConflicts", b_S_countConflicts, Cond.code y_S_countConflicts b_S_countConflicts 4 (Option.some Jvm.ClassFile.FieldType.int), 4, (Option.some Jvm.ClassFile.FieldType.int), 6, 137)
abbrev y_S_join : MethodName := ⟨"ShipSets", "join", "(II)I"⟩
abbrev b_S_join : ByteArray := prog_1_method_5_code
abbrev Y_S_join : gY := ("ShipSets", "join", b_S_join, Cond.code y_S_join b_S_join 5 (Option.some Jvm.ClassFile.FieldType.int), 5, (Option.some Jvm.ClassFile.FieldType.int), 7, 160)
abbrev y_M_isSet : MethodName := ⟨"ShipSetsModel", "isSet", "(I)Z"⟩
abbrev b_M_isSet : ByteArray := prog_11_method_5_code
abbrev Y_M_isSet : gY := ("ShipSetsModel", "isSet", b_M_isSet, Cond.code y_M_isSet b_M_isSet 2 (Option.some Jvm.ClassFile.FieldType.boolean), 2, (Option.some Jvm.ClassFile.FieldType.boolean), 0, 0)
abbrev y_M_isOf : MethodName := ⟨"ShipSetsModel", "isOf", "(IIIII)Z"⟩
abbrev b_M_isOf : ByteArray := prog_11_method_12_code
abbrev Y_M_isOf : gY := ("ShipSetsModel", "isOf", b_M_isOf, Cond.code y_M_isOf b_M_isOf 6 (Option.some Jvm.ClassFile.FieldType.boolean), 6, (Option.some Jvm.ClassFile.FieldType.boolean), 0, 0)
abbrev y_M_findCurrent : MethodName := ⟨"ShipSetsModel", "findCurrent", "(IIII)I"⟩
abbrev b_M_findCurrent : ByteArray := prog_11_method_11_code
abbrev Y_M_findCurrent : gY := ("ShipSetsModel", "findCurrent", b_M_findCurrent, Cond.code y_M_findCurrent b_M_findCurrent 9 (Option.some Jvm.ClassFile.FieldType.int), 9, (Option.some Jvm.ClassFile.FieldType.int), 1, 25)
abbrev y_M_counts : MethodName := ⟨"ShipSetsModel", "counts", "(IIII)Z"⟩
abbrev b_M_counts : ByteArray := prog_11_method_13_code
abbrev Y_M_counts : gY := ("ShipSetsModel", "counts", b_M_counts, Cond.code y_M_counts b_M_counts 7 (Option.some Jvm.ClassFile.FieldType.boolean), 7, (Option.some Jvm.ClassFile.FieldType.boolean), 0, 0)
abbrev y_M_valueOf : MethodName := ⟨"ShipSetsModel", "valueOf", "(IIII)J"⟩
abbrev b_M_valueOf : ByteArray := prog_11_method_14_code
abbrev Y_M_valueOf : gY := ("ShipSetsModel", "valueOf", b_M_valueOf, Cond.code y_M_valueOf b_M_valueOf 12 (Option.some Jvm.ClassFile.FieldType.long), 12, (Option.some Jvm.ClassFile.FieldType.long), 2, 53)
abbrev y_M_isConflict : MethodName := ⟨"ShipSetsModel", "isConflict", "(III)Z"⟩
abbrev b_M_isConflict : ByteArray := prog_11_method_16_code
abbrev Y_M_isConflict : gY := ("ShipSetsModel", "isConflict", b_M_isConflict, Cond.code y_M_isConflict b_M_isConflict 4 (Option.some Jvm.ClassFile.FieldType.boolean), 4, (Option.some Jvm.ClassFile.FieldType.boolean), 3, 84)
abbrev y_M_join : MethodName := ⟨"ShipSetsModel", "join", "(II)I"⟩
abbrev b_M_join : ByteArray := prog_11_method_17_code
abbrev Y_M_join : gY := ("ShipSetsModel", "join", b_M_join, Cond.code y_M_join b_M_join 5 (Option.some Jvm.ClassFile.FieldType.int), 5, (Option.some Jvm.ClassFile.FieldType.int), 4, 107)
abbrev y_Holding_isSameAs : MethodName := ⟨"ShipSets$Holding", "isSameAs", "(LShipSets$Holding;)Z"⟩
abbrev b_Holding_isSameAs : ByteArray := prog_5_method_7_code
abbrev Y_Holding_isSameAs : gY := ("ShipSets$Holding", "isSameAs", b_Holding_isSameAs, Cond.code y_Holding_isSameAs b_Holding_isSameAs 3 (Option.some Jvm.ClassFile.FieldType.boolean), 3, (Option.some Jvm.ClassFile.FieldType.boolean), 0, 0)
abbrev y_S_equal : MethodName := ⟨"ShipSets", "equal", "(II)Z"⟩
abbrev b_S_equal : ByteArray := prog_1_method_6_code
abbrev Y_S_equal : gY := ("ShipSets", "equal", b_S_equal, Cond.code y_S_equal b_S_equal 5 (Option.some Jvm.ClassFile.FieldType.boolean), 5, (Option.some Jvm.ClassFile.FieldType.boolean), 4, 85)
abbrev y_M_equal : MethodName := ⟨"ShipSetsModel", "equal", "(II)Z"⟩
abbrev b_M_equal : ByteArray := prog_11_method_18_code
abbrev Y_M_equal : gY := ("ShipSetsModel", "equal", b_M_equal, Cond.code y_M_equal b_M_equal 5 (Option.some Jvm.ClassFile.FieldType.boolean), 5, (Option.some Jvm.ClassFile.FieldType.boolean), 1, 21)
abbrev y_S_known : MethodName := ⟨"ShipSets", "known", "(IIII)J"⟩
abbrev b_S_known : ByteArray := prog_1_method_7_code
abbrev Y_S_known : gY := ("ShipSets", "known", b_S_known, Cond.code y_S_known b_S_known 7 (Option.some Jvm.ClassFile.FieldType.long), 7, (Option.some Jvm.ClassFile.FieldType.long), 5, 113)
abbrev y_M_known : MethodName := ⟨"ShipSetsModel", "known", "(IIII)J"⟩
abbrev b_M_known : ByteArray := prog_11_method_15_code
abbrev Y_M_known : gY := ("ShipSetsModel", "known", b_M_known, Cond.code y_M_known b_M_known 5 (Option.some Jvm.ClassFile.FieldType.long), 5, (Option.some Jvm.ClassFile.FieldType.long), 3, 84)
abbrev y_S_cellInConflict : MethodName := ⟨"ShipSets", "cellInConflict", "(LShipSets$Holding;I)I"⟩
abbrev b_S_cellInConflict : ByteArray := prog_1_method_34_code
abbrev Y_S_cellInConflict : gY := ("ShipSets", "cellInConflict", b_S_cellInConflict, Cond.code y_S_cellInConflict b_S_cellInConflict 5 (Option.some Jvm.ClassFile.FieldType.int), 5, (Option.some Jvm.ClassFile.FieldType.int), 6, 137)
abbrev y_S_conflict : MethodName := ⟨"ShipSets", "conflict", "(III)I"⟩
abbrev b_S_conflict : ByteArray := prog_1_method_8_code
abbrev Y_S_conflict : gY := ("ShipSets", "conflict", b_S_conflict, Cond.code y_S_conflict b_S_conflict 6 (Option.some Jvm.ClassFile.FieldType.int), 6, (Option.some Jvm.ClassFile.FieldType.int), 7, 161)
abbrev y_M_conflict : MethodName := ⟨"ShipSetsModel", "conflict", "(III)I"⟩
abbrev b_M_conflict : ByteArray := prog_11_method_19_code
abbrev Y_M_conflict : gY := ("ShipSetsModel", "conflict", b_M_conflict, Cond.code y_M_conflict b_M_conflict 6 (Option.some Jvm.ClassFile.FieldType.int), 6, (Option.some Jvm.ClassFile.FieldType.int), 4, 107)
abbrev y_Holding_takeSettling : MethodName := ⟨"ShipSets$Holding", "takeSettling", "(I)V"⟩
abbrev b_Holding_takeSettling : ByteArray := prog_5_method_4_code
abbrev Y_Holding_takeSettling : gY := ("ShipSets$Holding", "takeSettling", b_Holding_takeSettling, Cond.code y_Holding_takeSettling b_Holding_takeSettling 2 (Option.none : Option Jvm.ClassFile.FieldType), 2, (Option.none : Option Jvm.ClassFile.FieldType), 0, 0)
abbrev y_Arrays_copyOf3 : MethodName := ⟨"java/util/Arrays", "copyOf", "([II)[I"⟩
abbrev b_Arrays_copyOf3 : ByteArray := prog_20_method_123_code
abbrev Y_Arrays_copyOf3 : gY := ("java/util/Arrays", "copyOf", b_Arrays_copyOf3, Cond.code y_Arrays_copyOf3 b_Arrays_copyOf3 3 (Option.some (Jvm.ClassFile.FieldType.array Jvm.ClassFile.FieldType.int)), 3, (Option.some (Jvm.ClassFile.FieldType.array Jvm.ClassFile.FieldType.int)), 1, 60)
abbrev y_Settling_init : MethodName := ⟨"ShipSets$Settling", "<init>", "(IILShipSets$Current;)V"⟩
abbrev b_Settling_init : ByteArray := prog_6_method_1_code
abbrev Y_Settling_init : gY := ("ShipSets$Settling", "<init>", b_Settling_init, Cond.code y_Settling_init b_Settling_init 4 (Option.none : Option Jvm.ClassFile.FieldType), 4, (Option.none : Option Jvm.ClassFile.FieldType), 2, 82)
abbrev y_S_settle : MethodName := ⟨"ShipSets", "settle", "(IIII)I"⟩
abbrev b_S_settle : ByteArray := prog_1_method_9_code
abbrev Y_S_settle : gY := ("ShipSets", "settle", b_S_settle, Cond.code y_S_settle b_S_settle 7 (Option.some Jvm.ClassFile.FieldType.int), 7, (Option.some Jvm.ClassFile.FieldType.int), 7, 191)
abbrev y_M_settle : MethodName := ⟨"ShipSetsModel", "settle", "(IIII)I"⟩
abbrev b_M_settle : ByteArray := prog_11_method_20_code
abbrev Y_M_settle : gY := ("ShipSetsModel", "settle", b_M_settle, Cond.code y_M_settle b_M_settle 8 (Option.some Jvm.ClassFile.FieldType.int), 8, (Option.some Jvm.ClassFile.FieldType.int), 2, 53)
abbrev y_Holding_becomeLike : MethodName := ⟨"ShipSets$Holding", "becomeLike", "(LShipSets$Holding;)V"⟩
abbrev b_Holding_becomeLike : ByteArray := prog_5_method_6_code
abbrev Y_Holding_becomeLike : gY := ("ShipSets$Holding", "becomeLike", b_Holding_becomeLike, Cond.code y_Holding_becomeLike b_Holding_becomeLike 2 (Option.none : Option Jvm.ClassFile.FieldType), 2, (Option.none : Option Jvm.ClassFile.FieldType), 1, 60)
abbrev y_S_batch : MethodName := ⟨"ShipSets", "batch", "(I)Z"⟩
abbrev b_S_batch : ByteArray := prog_1_method_10_code
abbrev Y_S_batch : gY := ("ShipSets", "batch", b_S_batch, Cond.code y_S_batch b_S_batch 3 (Option.some Jvm.ClassFile.FieldType.boolean), 3, (Option.some Jvm.ClassFile.FieldType.boolean), 4, 85)
abbrev y_M_batch : MethodName := ⟨"ShipSetsModel", "batch", "(I)Z"⟩
abbrev b_M_batch : ByteArray := prog_11_method_21_code
abbrev Y_M_batch : gY := ("ShipSetsModel", "batch", b_M_batch, Cond.code y_M_batch b_M_batch 3 (Option.some Jvm.ClassFile.FieldType.boolean), 3, (Option.some Jvm.ClassFile.FieldType.boolean), 1, 21)
abbrev y_S_endBatch : MethodName := ⟨"ShipSets", "endBatch", "(I)Z"⟩
abbrev b_S_endBatch : ByteArray := prog_1_method_11_code
abbrev Y_S_endBatch : gY := ("ShipSets", "endBatch", b_S_endBatch, Cond.code y_S_endBatch b_S_endBatch 3 (Option.some Jvm.ClassFile.FieldType.boolean), 3, (Option.some Jvm.ClassFile.FieldType.boolean), 4, 85)
abbrev y_M_endBatch : MethodName := ⟨"ShipSetsModel", "endBatch", "(I)Z"⟩
abbrev b_M_endBatch : ByteArray := prog_11_method_22_code
abbrev Y_M_endBatch : gY := ("ShipSetsModel", "endBatch", b_M_endBatch, Cond.code y_M_endBatch b_M_endBatch 2 (Option.some Jvm.ClassFile.FieldType.boolean), 2, (Option.some Jvm.ClassFile.FieldType.boolean), 1, 21)
abbrev y_S_isPerson : MethodName := ⟨"ShipSets", "isPerson", "(I)Z"⟩
abbrev b_S_isPerson : ByteArray := prog_1_method_24_code
abbrev Y_S_isPerson : gY := ("ShipSets", "isPerson", b_S_isPerson, Cond.code y_S_isPerson b_S_isPerson 1 (Option.some Jvm.ClassFile.FieldType.boolean), 1, (Option.some Jvm.ClassFile.FieldType.boolean), 0, 0)
abbrev y_S_right : MethodName := ⟨"ShipSets", "right", "(IIZ)Z"⟩
abbrev b_S_right : ByteArray := prog_1_method_12_code
abbrev Y_S_right : gY := ("ShipSets", "right", b_S_right, Cond.code y_S_right b_S_right 4 (Option.some Jvm.ClassFile.FieldType.boolean), 4, (Option.some Jvm.ClassFile.FieldType.boolean), 1, 20)
abbrev y_M_right : MethodName := ⟨"ShipSetsModel", "right", "(IIZ)Z"⟩
abbrev b_M_right : ByteArray := prog_11_method_23_code
abbrev Y_M_right : gY := ("ShipSetsModel", "right", b_M_right, Cond.code y_M_right b_M_right 4 (Option.some Jvm.ClassFile.FieldType.boolean), 4, (Option.some Jvm.ClassFile.FieldType.boolean), 1, 25)
abbrev y_S_seen : MethodName := ⟨"ShipSets", "seen", "(IIII)J"⟩
abbrev b_S_seen : ByteArray := prog_1_method_13_code
abbrev Y_S_seen : gY := ("ShipSets", "seen", b_S_seen, Cond.code y_S_seen b_S_seen 7 (Option.some Jvm.ClassFile.FieldType.long), 7, (Option.some Jvm.ClassFile.FieldType.long), 5, 113)
abbrev y_M_seen : MethodName := ⟨"ShipSetsModel", "seen", "(IIII)J"⟩
abbrev b_M_seen : ByteArray := prog_11_method_24_code
abbrev Y_M_seen : gY := ("ShipSetsModel", "seen", b_M_seen, Cond.code y_M_seen b_M_seen 5 (Option.some Jvm.ClassFile.FieldType.long), 5, (Option.some Jvm.ClassFile.FieldType.long), 3, 84)
abbrev y_Blocks_firstFrom : MethodName := ⟨"ShipSets$Blocks", "firstFrom", "(I)I"⟩
abbrev b_Blocks_firstFrom : ByteArray := prog_2_method_3_code
abbrev Y_Blocks_firstFrom : gY := ("ShipSets$Blocks", "firstFrom", b_Blocks_firstFrom, Cond.code y_Blocks_firstFrom b_Blocks_firstFrom 3 (Option.some Jvm.ClassFile.FieldType.int), 3, (Option.some Jvm.ClassFile.FieldType.int), 1, 60)
abbrev y_Blocks_add : MethodName := ⟨"ShipSets$Blocks", "add", "(II)Z"⟩
abbrev b_Blocks_add : ByteArray := prog_2_method_2_code
abbrev Y_Blocks_add : gY := ("ShipSets$Blocks", "add", b_Blocks_add, Cond.code y_Blocks_add b_Blocks_add 4 (Option.some Jvm.ClassFile.FieldType.boolean), 4, (Option.some Jvm.ClassFile.FieldType.boolean), 2, 82)
abbrev y_S_block : MethodName := ⟨"ShipSets", "block", "(III)Z"⟩
abbrev b_S_block : ByteArray := prog_1_method_14_code
abbrev Y_S_block : gY := ("ShipSets", "block", b_S_block, Cond.code y_S_block b_S_block 5 (Option.some Jvm.ClassFile.FieldType.boolean), 5, (Option.some Jvm.ClassFile.FieldType.boolean), 4, 105)
abbrev y_M_inBlock : MethodName := ⟨"ShipSetsModel", "inBlock", "(II)Z"⟩
abbrev b_M_inBlock : ByteArray := prog_11_method_25_code
abbrev Y_M_inBlock : gY := ("ShipSetsModel", "inBlock", b_M_inBlock, Cond.code y_M_inBlock b_M_inBlock 5 (Option.some Jvm.ClassFile.FieldType.boolean), 5, (Option.some Jvm.ClassFile.FieldType.boolean), 0, 0)
abbrev y_M_block : MethodName := ⟨"ShipSetsModel", "block", "(III)Z"⟩
abbrev b_M_block : ByteArray := prog_11_method_26_code
abbrev Y_M_block : gY := ("ShipSetsModel", "block", b_M_block, Cond.code y_M_block b_M_block 5 (Option.some Jvm.ClassFile.FieldType.boolean), 5, (Option.some Jvm.ClassFile.FieldType.boolean), 1, 25)
abbrev y_Teller_giveNumber : MethodName := ⟨"ShipSets$Teller", "giveNumber", "()I"⟩
abbrev b_Teller_giveNumber : ByteArray := prog_8_method_5_code
abbrev Y_Teller_giveNumber : gY := ("ShipSets$Teller", "giveNumber", b_Teller_giveNumber, Cond.code y_Teller_giveNumber b_Teller_giveNumber 3 (Option.some Jvm.ClassFile.FieldType.int), 3, (Option.some Jvm.ClassFile.FieldType.int), 5, 111)
abbrev y_S_number : MethodName := ⟨"ShipSets", "number", "(I)I"⟩
abbrev b_S_number : ByteArray := prog_1_method_15_code
abbrev Y_S_number : gY := ("ShipSets", "number", b_S_number, Cond.code y_S_number b_S_number 3 (Option.some Jvm.ClassFile.FieldType.int), 3, (Option.some Jvm.ClassFile.FieldType.int), 6, 133)
abbrev y_M_number : MethodName := ⟨"ShipSetsModel", "number", "(I)I"⟩
abbrev b_M_number : ByteArray := prog_11_method_27_code
abbrev Y_M_number : gY := ("ShipSetsModel", "number", b_M_number, Cond.code y_M_number b_M_number 3 (Option.some Jvm.ClassFile.FieldType.int), 3, (Option.some Jvm.ClassFile.FieldType.int), 1, 24)
abbrev y_AL_isEmpty : MethodName := ⟨"java/util/ArrayList", "isEmpty", "()Z"⟩
abbrev b_AL_isEmpty : ByteArray := prog_19_method_9_code
abbrev Y_AL_isEmpty : gY := ("java/util/ArrayList", "isEmpty", b_AL_isEmpty, Cond.code y_AL_isEmpty b_AL_isEmpty 1 (Option.some Jvm.ClassFile.FieldType.boolean), 1, (Option.some Jvm.ClassFile.FieldType.boolean), 0, 0)
abbrev y_Teller_lastLostFrom : MethodName := ⟨"ShipSets$Teller", "lastLostFrom", "(I)I"⟩
abbrev b_Teller_lastLostFrom : ByteArray := prog_8_method_7_code
abbrev Y_Teller_lastLostFrom : gY := ("ShipSets$Teller", "lastLostFrom", b_Teller_lastLostFrom, Cond.code y_Teller_lastLostFrom b_Teller_lastLostFrom 4 (Option.some Jvm.ClassFile.FieldType.int), 4, (Option.some Jvm.ClassFile.FieldType.int), 4, 88)
abbrev y_Blocks_lastAround : MethodName := ⟨"ShipSets$Blocks", "lastAround", "(I)I"⟩
abbrev b_Blocks_lastAround : ByteArray := prog_2_method_4_code
abbrev Y_Blocks_lastAround : gY := ("ShipSets$Blocks", "lastAround", b_Blocks_lastAround, Cond.code y_Blocks_lastAround b_Blocks_lastAround 3 (Option.some Jvm.ClassFile.FieldType.int), 3, (Option.some Jvm.ClassFile.FieldType.int), 0, 0)
abbrev y_Teller_endOfLostSpan : MethodName := ⟨"ShipSets$Teller", "endOfLostSpan", "(II)I"⟩
abbrev b_Teller_endOfLostSpan : ByteArray := prog_8_method_6_code
abbrev Y_Teller_endOfLostSpan : gY := ("ShipSets$Teller", "endOfLostSpan", b_Teller_endOfLostSpan, Cond.code y_Teller_endOfLostSpan b_Teller_endOfLostSpan 7 (Option.some Jvm.ClassFile.FieldType.int), 7, (Option.some Jvm.ClassFile.FieldType.int), 5, 111)
abbrev y_S_lost : MethodName := ⟨"ShipSets", "lost", "(III)I"⟩
abbrev b_S_lost : ByteArray := prog_1_method_16_code
abbrev Y_S_lost : gY := ("ShipSets", "lost", b_S_lost, Cond.code y_S_lost b_S_lost 5 (Option.some Jvm.ClassFile.FieldType.int), 5, (Option.some Jvm.ClassFile.FieldType.int), 6, 137)
abbrev y_M_lost : MethodName := ⟨"ShipSetsModel", "lost", "(III)I"⟩
abbrev b_M_lost : ByteArray := prog_11_method_28_code
abbrev Y_M_lost : gY := ("ShipSetsModel", "lost", b_M_lost, Cond.code y_M_lost b_M_lost 9 (Option.some Jvm.ClassFile.FieldType.int), 9, (Option.some Jvm.ClassFile.FieldType.int), 1, 24)
abbrev y_S_close : MethodName := ⟨"ShipSets", "close", "(I)Z"⟩
abbrev b_S_close : ByteArray := prog_1_method_17_code
abbrev Y_S_close : gY := ("ShipSets", "close", b_S_close, Cond.code y_S_close b_S_close 3 (Option.some Jvm.ClassFile.FieldType.boolean), 3, (Option.some Jvm.ClassFile.FieldType.boolean), 4, 85)
abbrev y_M_close : MethodName := ⟨"ShipSetsModel", "close", "(I)Z"⟩
abbrev b_M_close : ByteArray := prog_11_method_9_code
abbrev Y_M_close : gY := ("ShipSetsModel", "close", b_M_close, Cond.code y_M_close b_M_close 2 (Option.some Jvm.ClassFile.FieldType.boolean), 2, (Option.some Jvm.ClassFile.FieldType.boolean), 1, 21)
abbrev y_S_isSecond : MethodName := ⟨"ShipSets", "isSecond", "(J)Z"⟩
abbrev b_S_isSecond : ByteArray := prog_1_method_25_code
abbrev Y_S_isSecond : gY := ("ShipSets", "isSecond", b_S_isSecond, Cond.code y_S_isSecond b_S_isSecond 2 (Option.some Jvm.ClassFile.FieldType.boolean), 2, (Option.some Jvm.ClassFile.FieldType.boolean), 0, 0)
abbrev y_Clock_add : MethodName := ⟨"ShipSets$Clock", "add", "(JJ)Z"⟩
abbrev b_Clock_add : ByteArray := prog_3_method_2_code
abbrev Y_Clock_add : gY := ("ShipSets$Clock", "add", b_Clock_add, Cond.code y_Clock_add b_Clock_add 5 (Option.some Jvm.ClassFile.FieldType.boolean), 5, (Option.some Jvm.ClassFile.FieldType.boolean), 0, 0)
abbrev y_S_mark : MethodName := ⟨"ShipSets", "mark", "(IJJ)Z"⟩
abbrev b_S_mark : ByteArray := prog_1_method_18_code
abbrev Y_S_mark : gY := ("ShipSets", "mark", b_S_mark, Cond.code y_S_mark b_S_mark 7 (Option.some Jvm.ClassFile.FieldType.boolean), 7, (Option.some Jvm.ClassFile.FieldType.boolean), 4, 85)
abbrev y_M_mark : MethodName := ⟨"ShipSetsModel", "mark", "(IJJ)Z"⟩
abbrev b_M_mark : ByteArray := prog_11_method_29_code
abbrev Y_M_mark : gY := ("ShipSetsModel", "mark", b_M_mark, Cond.code y_M_mark b_M_mark 8 (Option.some Jvm.ClassFile.FieldType.boolean), 8, (Option.some Jvm.ClassFile.FieldType.boolean), 1, 25)
abbrev y_Clock_lineFor : MethodName := ⟨"ShipSets$Clock", "lineFor", "(J)I"⟩
abbrev b_Clock_lineFor : ByteArray := prog_3_method_4_code
abbrev Y_Clock_lineFor : gY := ("ShipSets$Clock", "lineFor", b_Clock_lineFor, Cond.code y_Clock_lineFor b_Clock_lineFor 4 (Option.some Jvm.ClassFile.FieldType.int), 4, (Option.some Jvm.ClassFile.FieldType.int), 0, 0)
abbrev y_Clock_greatestDivisor : MethodName := ⟨"ShipSets$Clock", "greatestDivisor", "(JJ)J"⟩
abbrev b_Clock_greatestDivisor : ByteArray := prog_3_method_5_code
abbrev Y_Clock_greatestDivisor : gY := ("ShipSets$Clock", "greatestDivisor", b_Clock_greatestDivisor, Cond.code y_Clock_greatestDivisor b_Clock_greatestDivisor 11 (Option.some Jvm.ClassFile.FieldType.long), 11, (Option.some Jvm.ClassFile.FieldType.long), 1, 60)
abbrev y_Clock_trueSecond : MethodName := ⟨"ShipSets$Clock", "trueSecond", "(JI)J"⟩
abbrev b_Clock_trueSecond : ByteArray := prog_3_method_3_code
abbrev Y_Clock_trueSecond : gY := ("ShipSets$Clock", "trueSecond", b_Clock_trueSecond, Cond.code y_Clock_trueSecond b_Clock_trueSecond 11 (Option.some Jvm.ClassFile.FieldType.long), 11, (Option.some Jvm.ClassFile.FieldType.long), 2, 90)
abbrev y_S_corrected : MethodName := ⟨"ShipSets", "corrected", "(IJI)J"⟩
abbrev b_S_corrected : ByteArray := prog_1_method_19_code
abbrev Y_S_corrected : gY := ("ShipSets", "corrected", b_S_corrected, Cond.code y_S_corrected b_S_corrected 6 (Option.some Jvm.ClassFile.FieldType.long), 6, (Option.some Jvm.ClassFile.FieldType.long), 4, 120)
abbrev y_M_corrected : MethodName := ⟨"ShipSetsModel", "corrected", "(IJI)J"⟩
abbrev b_M_corrected : ByteArray := prog_11_method_30_code
abbrev Y_M_corrected : gY := ("ShipSetsModel", "corrected", b_M_corrected, Cond.code y_M_corrected b_M_corrected 16 (Option.some Jvm.ClassFile.FieldType.long), 16, (Option.some Jvm.ClassFile.FieldType.long), 1, 25)
abbrev y_Law_law : MethodName := ⟨"ShipSetsLaw", "law", "([I)Z"⟩
abbrev b_Law_law : ByteArray := code
abbrev Y_Law_law : gY := ("ShipSetsLaw", "law", b_Law_law, Cond.tt, 4, ret, 10, 388)
theorem cls_S : gCls 0 R_S T_S 7 := ⟨rfl, by
    intro w hw
    obtain ⟨k, hk, rfl⟩ := List.mem_map.mp hw
    have hk := List.mem_range.mp hk
    match k, hk with
    | 0, _ => exact (gT_in0 69 rfl)
    | 1, _ => exact (gT_in0 70 rfl)
    | 2, _ => exact (gT_in0 71 rfl)
    | 3, _ => exact (gT_in0 72 rfl)
    | 4, _ => exact (gT_in0 73 rfl)
    | 5, _ => exact (gT_in0 74 rfl)
    | 6, _ => exact (gT_in0 75 rfl)
    | k + 7, hk => exact absurd hk (by omega), ⟨ty_S, by decide +kernel⟩, by decide +kernel⟩
theorem cls_Teller : gCls 1 R_Teller T_Teller 4 := ⟨rfl, by
    intro w hw
    obtain ⟨k, hk, rfl⟩ := List.mem_map.mp hw
    have hk := List.mem_range.mp hk
    match k, hk with
    | 0, _ => exact (gT_in0 119 rfl)
    | 1, _ => exact (gT_in0 120 rfl)
    | 2, _ => exact (gT_in0 121 rfl)
    | 3, _ => exact (gT_in0 122 rfl)
    | k + 4, hk => exact absurd hk (by omega), ⟨ty_Teller, by decide +kernel⟩, by decide +kernel⟩
theorem cls_Blocks : gCls 2 R_Blocks T_Blocks 4 := ⟨rfl, by
    intro w hw
    obtain ⟨k, hk, rfl⟩ := List.mem_map.mp hw
    have hk := List.mem_range.mp hk
    match k, hk with
    | 0, _ => exact (gT_in0 100 rfl)
    | 1, _ => exact (gT_in0 101 rfl)
    | 2, _ => exact (gT_in0 102 rfl)
    | 3, _ => exact (gT_in0 103 rfl)
    | k + 4, hk => exact absurd hk (by omega), ⟨ty_Blocks, by decide +kernel⟩, by decide +kernel⟩
theorem cls_Clock : gCls 3 R_Clock T_Clock 3 := ⟨rfl, by
    intro w hw
    obtain ⟨k, hk, rfl⟩ := List.mem_map.mp hw
    have hk := List.mem_range.mp hk
    match k, hk with
    | 0, _ => exact (gT_in0 112 rfl)
    | 1, _ => exact (gT_in0 113 rfl)
    | 2, _ => exact (gT_in0 114 rfl)
    | k + 3, hk => exact absurd hk (by omega), ⟨ty_Clock, by decide +kernel⟩, by decide +kernel⟩
theorem cls_ShipSet : gCls 4 R_ShipSet T_ShipSet 3 := ⟨rfl, by
    intro w hw
    obtain ⟨k, hk, rfl⟩ := List.mem_map.mp hw
    have hk := List.mem_range.mp hk
    match k, hk with
    | 0, _ => exact (gT_in1 132 rfl)
    | 1, _ => exact (gT_in1 133 rfl)
    | 2, _ => exact (gT_in1 134 rfl)
    | k + 3, hk => exact absurd hk (by omega), ⟨ty_ShipSet, by decide +kernel⟩, by decide +kernel⟩
theorem cls_Holding : gCls 5 R_Holding T_Holding 2 := ⟨rfl, by
    intro w hw
    obtain ⟨k, hk, rfl⟩ := List.mem_map.mp hw
    have hk := List.mem_range.mp hk
    match k, hk with
    | 0, _ => exact (gT_in1 127 rfl)
    | 1, _ => exact (gT_in1 128 rfl)
    | k + 2, hk => exact absurd hk (by omega), ⟨ty_Holding, by decide +kernel⟩, by decide +kernel⟩
theorem cls_Settling : gCls 6 R_Settling T_Settling 3 := ⟨rfl, by
    intro w hw
    obtain ⟨k, hk, rfl⟩ := List.mem_map.mp hw
    have hk := List.mem_range.mp hk
    match k, hk with
    | 0, _ => exact (gT_in2 99 rfl)
    | 1, _ => exact (gT_in2 100 rfl)
    | 2, _ => exact (gT_in2 101 rfl)
    | k + 3, hk => exact absurd hk (by omega), ⟨ty_Settling, by decide +kernel⟩, by decide +kernel⟩
theorem cls_Telling : gCls 7 R_Telling T_Telling 7 := ⟨rfl, by
    intro w hw
    obtain ⟨k, hk, rfl⟩ := List.mem_map.mp hw
    have hk := List.mem_range.mp hk
    match k, hk with
    | 0, _ => exact (gT_in1 92 rfl)
    | 1, _ => exact (gT_in1 93 rfl)
    | 2, _ => exact (gT_in1 94 rfl)
    | 3, _ => exact (gT_in1 95 rfl)
    | 4, _ => exact (gT_in1 96 rfl)
    | 5, _ => exact (gT_in1 97 rfl)
    | 6, _ => exact (gT_in1 98 rfl)
    | k + 7, hk => exact absurd hk (by omega), ⟨ty_Telling, by decide +kernel⟩, by decide +kernel⟩
theorem cls_Current : gCls 8 R_Current T_Current 2 := ⟨rfl, by
    intro w hw
    obtain ⟨k, hk, rfl⟩ := List.mem_map.mp hw
    have hk := List.mem_range.mp hk
    match k, hk with
    | 0, _ => exact (gT_in0 57 rfl)
    | 1, _ => exact (gT_in0 58 rfl)
    | k + 2, hk => exact absurd hk (by omega), ⟨ty_Current, by decide +kernel⟩, by decide +kernel⟩
theorem cls_AL : gCls 9 R_AL T_AL 3 := ⟨rfl, by
    intro w hw
    obtain ⟨k, hk, rfl⟩ := List.mem_map.mp hw
    have hk := List.mem_range.mp hk
    match k, hk with
    | 0, _ => exact (gT_in0 46 rfl)
    | 1, _ => exact (gT_in0 47 rfl)
    | 2, _ => exact (gT_in0 48 rfl)
    | k + 3, hk => exact absurd hk (by omega), ⟨ty_AL, by decide +kernel⟩, by decide +kernel⟩
theorem cls_M : gCls 10 R_M T_M 27 := ⟨rfl, by
    intro w hw
    obtain ⟨k, hk, rfl⟩ := List.mem_map.mp hw
    have hk := List.mem_range.mp hk
    match k, hk with
    | 0, _ => exact (gT_in3 90 rfl)
    | 1, _ => exact (gT_in3 91 rfl)
    | 2, _ => exact (gT_in3 92 rfl)
    | 3, _ => exact (gT_in3 93 rfl)
    | 4, _ => exact (gT_in3 94 rfl)
    | 5, _ => exact (gT_in3 95 rfl)
    | 6, _ => exact (gT_in3 96 rfl)
    | 7, _ => exact (gT_in3 97 rfl)
    | 8, _ => exact (gT_in3 98 rfl)
    | 9, _ => exact (gT_in3 99 rfl)
    | 10, _ => exact (gT_in3 100 rfl)
    | 11, _ => exact (gT_in3 101 rfl)
    | 12, _ => exact (gT_in3 102 rfl)
    | 13, _ => exact (gT_in3 103 rfl)
    | 14, _ => exact (gT_in3 104 rfl)
    | 15, _ => exact (gT_in3 105 rfl)
    | 16, _ => exact (gT_in3 106 rfl)
    | 17, _ => exact (gT_in3 107 rfl)
    | 18, _ => exact (gT_in3 108 rfl)
    | 19, _ => exact (gT_in3 109 rfl)
    | 20, _ => exact (gT_in3 110 rfl)
    | 21, _ => exact (gT_in3 111 rfl)
    | 22, _ => exact (gT_in3 112 rfl)
    | 23, _ => exact (gT_in3 113 rfl)
    | 24, _ => exact (gT_in3 114 rfl)
    | 25, _ => exact (gT_in3 115 rfl)
    | 26, _ => exact (gT_in3 116 rfl)
    | k + 27, hk => exact absurd hk (by omega), ⟨ty_M, by decide +kernel⟩, by decide +kernel⟩
theorem fl_S_14 : gGet "ShipSets" 14 0 0 (.object "java/util/ArrayList") := ⟨R_S, T_S, 7, "ShipSets", cls_S, by decide, by decide +kernel, Or.inl rfl, Or.inl (gT_in0 62 rfl)⟩
theorem fl_S_18 : gGet "ShipSets" 18 0 1 (.object "java/util/ArrayList") := ⟨R_S, T_S, 7, "ShipSets", cls_S, by decide, by decide +kernel, Or.inl rfl, Or.inl (gT_in0 63 rfl)⟩
theorem fl_S_21 : gGet "ShipSets" 21 0 2 (.object "java/util/ArrayList") := ⟨R_S, T_S, 7, "ShipSets", cls_S, by decide, by decide +kernel, Or.inl rfl, Or.inl (gT_in0 64 rfl)⟩
theorem fl_S_26 : gGet "ShipSets" 26 0 3 (.array (.object "ShipSets$Telling")) := ⟨R_S, T_S, 7, "ShipSets", cls_S, by decide, by decide +kernel, Or.inl rfl, Or.inl (gT_in0 65 rfl)⟩
theorem fl_S_30 : gGet "ShipSets" 30 0 4 (.array .boolean) := ⟨R_S, T_S, 7, "ShipSets", cls_S, by decide, by decide +kernel, Or.inl rfl, Or.inl (gT_in0 66 rfl)⟩
theorem fl_S_37 : gGet "ShipSets" 37 0 5 (.object "ShipSets$Current") := ⟨R_S, T_S, 7, "ShipSets", cls_S, by decide, by decide +kernel, Or.inl rfl, Or.inl (gT_in0 67 rfl)⟩
theorem fl_S_41 : gGet "ShipSets" 41 0 6 (.int) := ⟨R_S, T_S, 7, "ShipSets", cls_S, by decide, by decide +kernel, Or.inl rfl, Or.inl (gT_in0 68 rfl)⟩
theorem fl_S_83 : gGet "ShipSets" 83 1 3 (.boolean) := ⟨R_Teller, T_Teller, 4, "ShipSets$Teller", cls_Teller, by decide, by decide +kernel, Or.inl rfl, Or.inr ⟨"ShipSets", by decide +kernel⟩⟩
theorem fl_S_87 : gGet "ShipSets" 87 1 0 (.object "java/util/ArrayList") := ⟨R_Teller, T_Teller, 4, "ShipSets$Teller", cls_Teller, by decide, by decide +kernel, Or.inl rfl, Or.inr ⟨"ShipSets", by decide +kernel⟩⟩
theorem fl_S_100 : gGet "ShipSets" 100 4 0 (.object "ShipSets$Holding") := ⟨R_ShipSet, T_ShipSet, 3, "ShipSets$ShipSet", cls_ShipSet, by decide, by decide +kernel, Or.inl rfl, Or.inr ⟨"ShipSets", by decide +kernel⟩⟩
theorem fl_S_104 : gGet "ShipSets" 104 5 0 (.array .int) := ⟨R_Holding, T_Holding, 2, "ShipSets$Holding", cls_Holding, by decide, by decide +kernel, Or.inl rfl, Or.inr ⟨"ShipSets", by decide +kernel⟩⟩
theorem fl_S_156 : gGet "ShipSets" 156 4 2 (.boolean) := ⟨R_ShipSet, T_ShipSet, 3, "ShipSets$ShipSet", cls_ShipSet, by decide, by decide +kernel, Or.inl rfl, Or.inr ⟨"ShipSets", by decide +kernel⟩⟩
theorem fl_S_159 : gGet "ShipSets" 159 4 1 (.object "ShipSets$Holding") := ⟨R_ShipSet, T_ShipSet, 3, "ShipSets$ShipSet", cls_ShipSet, by decide, by decide +kernel, Or.inl rfl, Or.inr ⟨"ShipSets", by decide +kernel⟩⟩
theorem fl_S_171 : gGet "ShipSets" 171 1 1 (.object "ShipSets$Blocks") := ⟨R_Teller, T_Teller, 4, "ShipSets$Teller", cls_Teller, by decide, by decide +kernel, Or.inl rfl, Or.inr ⟨"ShipSets", by decide +kernel⟩⟩
theorem fl_S_189 : gGet "ShipSets" 189 1 2 (.object "ShipSets$Clock") := ⟨R_Teller, T_Teller, 4, "ShipSets$Teller", cls_Teller, by decide, by decide +kernel, Or.inl rfl, Or.inr ⟨"ShipSets", by decide +kernel⟩⟩
theorem fl_S_215 : gGet "ShipSets" 215 7 5 (.int) := ⟨R_Telling, T_Telling, 7, "ShipSets$Telling", cls_Telling, by decide, by decide +kernel, Or.inl rfl, Or.inr ⟨"ShipSets", by decide +kernel⟩⟩
theorem fl_S_224 : gGet "ShipSets" 224 7 6 (.object "ShipSets$Telling") := ⟨R_Telling, T_Telling, 7, "ShipSets$Telling", cls_Telling, by decide, by decide +kernel, Or.inl rfl, Or.inr ⟨"ShipSets", by decide +kernel⟩⟩
theorem fl_S_243 : gGet "ShipSets" 243 6 1 (.int) := ⟨R_Settling, T_Settling, 3, "ShipSets$Settling", cls_Settling, by decide, by decide +kernel, Or.inl rfl, Or.inr ⟨"ShipSets", by decide +kernel⟩⟩
theorem fl_Blocks_9 : gGet "ShipSets$Blocks" 9 2 0 (.array .int) := ⟨R_Blocks, T_Blocks, 4, "ShipSets$Blocks", cls_Blocks, by decide, by decide +kernel, Or.inl rfl, Or.inl (gT_in0 96 rfl)⟩
theorem fl_Blocks_15 : gGet "ShipSets$Blocks" 15 2 1 (.array .int) := ⟨R_Blocks, T_Blocks, 4, "ShipSets$Blocks", cls_Blocks, by decide, by decide +kernel, Or.inl rfl, Or.inl (gT_in0 97 rfl)⟩
theorem fl_Blocks_18 : gGet "ShipSets$Blocks" 18 2 2 (.array .int) := ⟨R_Blocks, T_Blocks, 4, "ShipSets$Blocks", cls_Blocks, by decide, by decide +kernel, Or.inl rfl, Or.inl (gT_in0 98 rfl)⟩
theorem fl_Blocks_21 : gGet "ShipSets$Blocks" 21 2 3 (.int) := ⟨R_Blocks, T_Blocks, 4, "ShipSets$Blocks", cls_Blocks, by decide, by decide +kernel, Or.inl rfl, Or.inl (gT_in0 99 rfl)⟩
theorem fl_Clock_9 : gGet "ShipSets$Clock" 9 3 0 (.array .long) := ⟨R_Clock, T_Clock, 3, "ShipSets$Clock", cls_Clock, by decide, by decide +kernel, Or.inl rfl, Or.inl (gT_in0 109 rfl)⟩
theorem fl_Clock_15 : gGet "ShipSets$Clock" 15 3 1 (.array .long) := ⟨R_Clock, T_Clock, 3, "ShipSets$Clock", cls_Clock, by decide, by decide +kernel, Or.inl rfl, Or.inl (gT_in0 110 rfl)⟩
theorem fl_Clock_18 : gGet "ShipSets$Clock" 18 3 2 (.int) := ⟨R_Clock, T_Clock, 3, "ShipSets$Clock", cls_Clock, by decide, by decide +kernel, Or.inl rfl, Or.inl (gT_in0 111 rfl)⟩
theorem fl_Current_9 : gGet "ShipSets$Current" 9 8 0 (.array .int) := ⟨R_Current, T_Current, 2, "ShipSets$Current", cls_Current, by decide, by decide +kernel, Or.inl rfl, Or.inl (gT_in0 55 rfl)⟩
theorem fl_Current_15 : gGet "ShipSets$Current" 15 8 1 (.array .long) := ⟨R_Current, T_Current, 2, "ShipSets$Current", cls_Current, by decide, by decide +kernel, Or.inl rfl, Or.inl (gT_in0 56 rfl)⟩
theorem fl_Current_25 : gGet "ShipSets$Current" 25 7 2 (.int) := ⟨R_Telling, T_Telling, 7, "ShipSets$Telling", cls_Telling, by decide, by decide +kernel, Or.inl rfl, Or.inr ⟨"ShipSets", by decide +kernel⟩⟩
theorem fl_Current_31 : gGet "ShipSets$Current" 31 7 0 (.int) := ⟨R_Telling, T_Telling, 7, "ShipSets$Telling", cls_Telling, by decide, by decide +kernel, Or.inl rfl, Or.inr ⟨"ShipSets", by decide +kernel⟩⟩
theorem fl_Current_34 : gGet "ShipSets$Current" 34 7 4 (.long) := ⟨R_Telling, T_Telling, 7, "ShipSets$Telling", cls_Telling, by decide, by decide +kernel, Or.inl rfl, Or.inr ⟨"ShipSets", by decide +kernel⟩⟩
theorem fl_Holding_9 : gGet "ShipSets$Holding" 9 5 0 (.array .int) := ⟨R_Holding, T_Holding, 2, "ShipSets$Holding", cls_Holding, by decide, by decide +kernel, Or.inl rfl, Or.inl (gT_in1 125 rfl)⟩
theorem fl_Holding_15 : gGet "ShipSets$Holding" 15 5 1 (.long) := ⟨R_Holding, T_Holding, 2, "ShipSets$Holding", cls_Holding, by decide, by decide +kernel, Or.inl rfl, Or.inl (gT_in1 126 rfl)⟩
theorem fl_Holding_19 : gGet "ShipSets$Holding" 19 7 1 (.int) := ⟨R_Telling, T_Telling, 7, "ShipSets$Telling", cls_Telling, by decide, by decide +kernel, Or.inl rfl, Or.inr ⟨"ShipSets", by decide +kernel⟩⟩
theorem fl_Holding_25 : gGet "ShipSets$Holding" 25 7 0 (.int) := ⟨R_Telling, T_Telling, 7, "ShipSets$Telling", cls_Telling, by decide, by decide +kernel, Or.inl rfl, Or.inr ⟨"ShipSets", by decide +kernel⟩⟩
theorem fl_Settling_9 : gGet "ShipSets$Settling" 9 6 0 (.int) := ⟨R_Settling, T_Settling, 3, "ShipSets$Settling", cls_Settling, by decide, by decide +kernel, Or.inl rfl, Or.inl (gT_in2 96 rfl)⟩
theorem fl_Settling_18 : gGet "ShipSets$Settling" 18 8 0 (.array .int) := ⟨R_Current, T_Current, 2, "ShipSets$Current", cls_Current, by decide, by decide +kernel, Or.inl rfl, Or.inr ⟨"ShipSets", by decide +kernel⟩⟩
theorem fl_Settling_30 : gGet "ShipSets$Settling" 30 6 2 (.array .int) := ⟨R_Settling, T_Settling, 3, "ShipSets$Settling", cls_Settling, by decide, by decide +kernel, Or.inl rfl, Or.inl (gT_in2 98 rfl)⟩
theorem fl_Teller_12 : gGet "ShipSets$Teller" 12 1 0 (.object "java/util/ArrayList") := ⟨R_Teller, T_Teller, 4, "ShipSets$Teller", cls_Teller, by decide, by decide +kernel, Or.inl rfl, Or.inl (gT_in0 115 rfl)⟩
theorem fl_Teller_21 : gGet "ShipSets$Teller" 21 1 1 (.object "ShipSets$Blocks") := ⟨R_Teller, T_Teller, 4, "ShipSets$Teller", cls_Teller, by decide, by decide +kernel, Or.inl rfl, Or.inl (gT_in0 116 rfl)⟩
theorem fl_Teller_46 : gGet "ShipSets$Teller" 46 7 2 (.int) := ⟨R_Telling, T_Telling, 7, "ShipSets$Telling", cls_Telling, by decide, by decide +kernel, Or.inl rfl, Or.inr ⟨"ShipSets", by decide +kernel⟩⟩
theorem fl_Teller_58 : gGet "ShipSets$Teller" 58 2 3 (.int) := ⟨R_Blocks, T_Blocks, 4, "ShipSets$Blocks", cls_Blocks, by decide, by decide +kernel, Or.inl rfl, Or.inr ⟨"ShipSets", by decide +kernel⟩⟩
theorem fl_Teller_61 : gGet "ShipSets$Teller" 61 2 2 (.array .int) := ⟨R_Blocks, T_Blocks, 4, "ShipSets$Blocks", cls_Blocks, by decide, by decide +kernel, Or.inl rfl, Or.inr ⟨"ShipSets", by decide +kernel⟩⟩
theorem fl_Teller_65 : gGet "ShipSets$Teller" 65 2 1 (.array .int) := ⟨R_Blocks, T_Blocks, 4, "ShipSets$Blocks", cls_Blocks, by decide, by decide +kernel, Or.inl rfl, Or.inr ⟨"ShipSets", by decide +kernel⟩⟩
theorem fl_Telling_19 : gGet "ShipSets$Telling" 19 7 3 (.int) := ⟨R_Telling, T_Telling, 7, "ShipSets$Telling", cls_Telling, by decide, by decide +kernel, Or.inl rfl, Or.inl (gT_in1 88 rfl)⟩
theorem fl_Telling_22 : gGet "ShipSets$Telling" 22 7 4 (.long) := ⟨R_Telling, T_Telling, 7, "ShipSets$Telling", cls_Telling, by decide, by decide +kernel, Or.inl rfl, Or.inl (gT_in1 89 rfl)⟩
theorem fl_Telling_26 : gGet "ShipSets$Telling" 26 7 5 (.int) := ⟨R_Telling, T_Telling, 7, "ShipSets$Telling", cls_Telling, by decide, by decide +kernel, Or.inl rfl, Or.inl (gT_in1 90 rfl)⟩
theorem fl_M_7 : gGet "ShipSetsModel" 7 10 1 (.array .boolean) := ⟨R_M, T_M, 27, "ShipSetsModel", cls_M, by decide, by decide +kernel, Or.inl rfl, Or.inl (gT_in3 64 rfl)⟩
theorem fl_M_13 : gGet "ShipSetsModel" 13 10 3 (.array .int) := ⟨R_M, T_M, 27, "ShipSetsModel", cls_M, by decide, by decide +kernel, Or.inl rfl, Or.inl (gT_in3 66 rfl)⟩
theorem fl_M_17 : gGet "ShipSetsModel" 17 10 4 (.array .int) := ⟨R_M, T_M, 27, "ShipSetsModel", cls_M, by decide, by decide +kernel, Or.inl rfl, Or.inl (gT_in3 67 rfl)⟩
theorem fl_M_20 : gGet "ShipSetsModel" 20 10 5 (.array .int) := ⟨R_M, T_M, 27, "ShipSetsModel", cls_M, by decide, by decide +kernel, Or.inl rfl, Or.inl (gT_in3 68 rfl)⟩
theorem fl_M_23 : gGet "ShipSetsModel" 23 10 6 (.array .int) := ⟨R_M, T_M, 27, "ShipSetsModel", cls_M, by decide, by decide +kernel, Or.inl rfl, Or.inl (gT_in3 69 rfl)⟩
theorem fl_M_26 : gGet "ShipSetsModel" 26 10 7 (.array .long) := ⟨R_M, T_M, 27, "ShipSetsModel", cls_M, by decide, by decide +kernel, Or.inl rfl, Or.inl (gT_in3 70 rfl)⟩
theorem fl_M_30 : gGet "ShipSetsModel" 30 10 8 (.array .int) := ⟨R_M, T_M, 27, "ShipSetsModel", cls_M, by decide, by decide +kernel, Or.inl rfl, Or.inl (gT_in3 71 rfl)⟩
theorem fl_M_33 : gGet "ShipSetsModel" 33 10 10 (.array .boolean) := ⟨R_M, T_M, 27, "ShipSetsModel", cls_M, by decide, by decide +kernel, Or.inl rfl, Or.inl (gT_in3 73 rfl)⟩
theorem fl_M_36 : gGet "ShipSetsModel" 36 10 11 (.array .boolean) := ⟨R_M, T_M, 27, "ShipSetsModel", cls_M, by decide, by decide +kernel, Or.inl rfl, Or.inl (gT_in3 74 rfl)⟩
theorem fl_M_39 : gGet "ShipSetsModel" 39 10 12 (.array .boolean) := ⟨R_M, T_M, 27, "ShipSetsModel", cls_M, by decide, by decide +kernel, Or.inl rfl, Or.inl (gT_in3 75 rfl)⟩
theorem fl_M_42 : gGet "ShipSetsModel" 42 10 14 (.array .int) := ⟨R_M, T_M, 27, "ShipSetsModel", cls_M, by decide, by decide +kernel, Or.inl rfl, Or.inl (gT_in3 77 rfl)⟩
theorem fl_M_45 : gGet "ShipSetsModel" 45 10 15 (.array .int) := ⟨R_M, T_M, 27, "ShipSetsModel", cls_M, by decide, by decide +kernel, Or.inl rfl, Or.inl (gT_in3 78 rfl)⟩
theorem fl_M_48 : gGet "ShipSetsModel" 48 10 16 (.array .int) := ⟨R_M, T_M, 27, "ShipSetsModel", cls_M, by decide, by decide +kernel, Or.inl rfl, Or.inl (gT_in3 79 rfl)⟩
theorem fl_M_51 : gGet "ShipSetsModel" 51 10 17 (.array .boolean) := ⟨R_M, T_M, 27, "ShipSetsModel", cls_M, by decide, by decide +kernel, Or.inl rfl, Or.inl (gT_in3 80 rfl)⟩
theorem fl_M_54 : gGet "ShipSetsModel" 54 10 18 (.array .boolean) := ⟨R_M, T_M, 27, "ShipSetsModel", cls_M, by decide, by decide +kernel, Or.inl rfl, Or.inl (gT_in3 81 rfl)⟩
theorem fl_M_57 : gGet "ShipSetsModel" 57 10 19 (.array .int) := ⟨R_M, T_M, 27, "ShipSetsModel", cls_M, by decide, by decide +kernel, Or.inl rfl, Or.inl (gT_in3 82 rfl)⟩
theorem fl_M_60 : gGet "ShipSetsModel" 60 10 20 (.array .int) := ⟨R_M, T_M, 27, "ShipSetsModel", cls_M, by decide, by decide +kernel, Or.inl rfl, Or.inl (gT_in3 83 rfl)⟩
theorem fl_M_63 : gGet "ShipSetsModel" 63 10 21 (.array .int) := ⟨R_M, T_M, 27, "ShipSetsModel", cls_M, by decide, by decide +kernel, Or.inl rfl, Or.inl (gT_in3 84 rfl)⟩
theorem fl_M_67 : gGet "ShipSetsModel" 67 10 22 (.array .boolean) := ⟨R_M, T_M, 27, "ShipSetsModel", cls_M, by decide, by decide +kernel, Or.inl rfl, Or.inl (gT_in3 85 rfl)⟩
theorem fl_M_70 : gGet "ShipSetsModel" 70 10 23 (.array .int) := ⟨R_M, T_M, 27, "ShipSetsModel", cls_M, by decide, by decide +kernel, Or.inl rfl, Or.inl (gT_in3 86 rfl)⟩
theorem fl_M_73 : gGet "ShipSetsModel" 73 10 24 (.array .long) := ⟨R_M, T_M, 27, "ShipSetsModel", cls_M, by decide, by decide +kernel, Or.inl rfl, Or.inl (gT_in3 87 rfl)⟩
theorem fl_M_76 : gGet "ShipSetsModel" 76 10 25 (.array .long) := ⟨R_M, T_M, 27, "ShipSetsModel", cls_M, by decide, by decide +kernel, Or.inl rfl, Or.inl (gT_in3 88 rfl)⟩
theorem fl_M_79 : gGet "ShipSetsModel" 79 10 26 (.array .boolean) := ⟨R_M, T_M, 27, "ShipSetsModel", cls_M, by decide, by decide +kernel, Or.inl rfl, Or.inl (gT_in3 89 rfl)⟩
theorem fl_M_82 : gGet "ShipSetsModel" 82 10 0 (.int) := ⟨R_M, T_M, 27, "ShipSetsModel", cls_M, by decide, by decide +kernel, Or.inl rfl, Or.inl (gT_in3 63 rfl)⟩
theorem fl_M_86 : gGet "ShipSetsModel" 86 10 9 (.int) := ⟨R_M, T_M, 27, "ShipSetsModel", cls_M, by decide, by decide +kernel, Or.inl rfl, Or.inl (gT_in3 72 rfl)⟩
theorem fl_M_89 : gGet "ShipSetsModel" 89 10 2 (.int) := ⟨R_M, T_M, 27, "ShipSetsModel", cls_M, by decide, by decide +kernel, Or.inl rfl, Or.inl (gT_in3 65 rfl)⟩
theorem fl_M_126 : gGet "ShipSetsModel" 126 10 13 (.int) := ⟨R_M, T_M, 27, "ShipSetsModel", cls_M, by decide, by decide +kernel, Or.inl rfl, Or.inl (gT_in3 76 rfl)⟩
theorem fl_AL_9 : gGet "java/util/ArrayList" 9 9 0 (.array (.object "java/lang/Object")) := ⟨R_AL, T_AL, 3, "java/util/ArrayList", cls_AL, by decide, by decide +kernel, Or.inl rfl, Or.inl (gT_in0 41 rfl)⟩
theorem fl_AL_48 : gGet "java/util/ArrayList" 48 9 1 (.int) := ⟨R_AL, T_AL, 3, "java/util/ArrayList", cls_AL, by decide, by decide +kernel, Or.inl rfl, Or.inl (gT_in0 42 rfl)⟩
theorem fl_AL_63 : gGet "java/util/ArrayList" 63 9 2 (.int) := ⟨R_AL, T_AL, 3, "java/util/ArrayList", cls_AL, by decide, by decide +kernel, Or.inr (gT_in0 45 rfl), Or.inl (gT_in0 44 rfl)⟩
theorem fp_S_14 : gFld "ShipSets" 14 0 0 (.object "java/util/ArrayList") true := ⟨R_S, T_S, 7, "ShipSets", cls_S, by decide, by decide +kernel, rfl, (fun _ => ⟨rfl, rfl, (gT_in0 62 rfl)⟩), Or.inl rfl, Or.inl (gT_in0 62 rfl)⟩
theorem fp_S_18 : gFld "ShipSets" 18 0 1 (.object "java/util/ArrayList") true := ⟨R_S, T_S, 7, "ShipSets", cls_S, by decide, by decide +kernel, rfl, (fun _ => ⟨rfl, rfl, (gT_in0 63 rfl)⟩), Or.inl rfl, Or.inl (gT_in0 63 rfl)⟩
theorem fp_S_21 : gFld "ShipSets" 21 0 2 (.object "java/util/ArrayList") true := ⟨R_S, T_S, 7, "ShipSets", cls_S, by decide, by decide +kernel, rfl, (fun _ => ⟨rfl, rfl, (gT_in0 64 rfl)⟩), Or.inl rfl, Or.inl (gT_in0 64 rfl)⟩
theorem fp_S_26 : gFld "ShipSets" 26 0 3 (.array (.object "ShipSets$Telling")) true := ⟨R_S, T_S, 7, "ShipSets", cls_S, by decide, by decide +kernel, rfl, (fun _ => ⟨rfl, rfl, (gT_in0 65 rfl)⟩), Or.inl rfl, Or.inl (gT_in0 65 rfl)⟩
theorem fp_S_30 : gFld "ShipSets" 30 0 4 (.array .boolean) true := ⟨R_S, T_S, 7, "ShipSets", cls_S, by decide, by decide +kernel, rfl, (fun _ => ⟨rfl, rfl, (gT_in0 66 rfl)⟩), Or.inl rfl, Or.inl (gT_in0 66 rfl)⟩
theorem fp_S_37 : gFld "ShipSets" 37 0 5 (.object "ShipSets$Current") true := ⟨R_S, T_S, 7, "ShipSets", cls_S, by decide, by decide +kernel, rfl, (fun _ => ⟨rfl, rfl, (gT_in0 67 rfl)⟩), Or.inl rfl, Or.inl (gT_in0 67 rfl)⟩
theorem fp_S_41 : gFld "ShipSets" 41 0 6 (.int) false := ⟨R_S, T_S, 7, "ShipSets", cls_S, by decide, by decide +kernel, rfl, (fun h => by cases h), Or.inl rfl, Or.inl (gT_in0 68 rfl)⟩
theorem fp_S_83 : gFld "ShipSets" 83 1 3 (.boolean) false := ⟨R_Teller, T_Teller, 4, "ShipSets$Teller", cls_Teller, by decide, by decide +kernel, rfl, (fun h => by cases h), Or.inl rfl, Or.inr ⟨"ShipSets", by decide +kernel⟩⟩
theorem fp_S_156 : gFld "ShipSets" 156 4 2 (.boolean) false := ⟨R_ShipSet, T_ShipSet, 3, "ShipSets$ShipSet", cls_ShipSet, by decide, by decide +kernel, rfl, (fun h => by cases h), Or.inl rfl, Or.inr ⟨"ShipSets", by decide +kernel⟩⟩
theorem fp_Blocks_9 : gFld "ShipSets$Blocks" 9 2 0 (.array .int) true := ⟨R_Blocks, T_Blocks, 4, "ShipSets$Blocks", cls_Blocks, by decide, by decide +kernel, rfl, (fun _ => ⟨rfl, rfl, (gT_in0 96 rfl)⟩), Or.inl rfl, Or.inl (gT_in0 96 rfl)⟩
theorem fp_Blocks_15 : gFld "ShipSets$Blocks" 15 2 1 (.array .int) true := ⟨R_Blocks, T_Blocks, 4, "ShipSets$Blocks", cls_Blocks, by decide, by decide +kernel, rfl, (fun _ => ⟨rfl, rfl, (gT_in0 97 rfl)⟩), Or.inl rfl, Or.inl (gT_in0 97 rfl)⟩
theorem fp_Blocks_18 : gFld "ShipSets$Blocks" 18 2 2 (.array .int) true := ⟨R_Blocks, T_Blocks, 4, "ShipSets$Blocks", cls_Blocks, by decide, by decide +kernel, rfl, (fun _ => ⟨rfl, rfl, (gT_in0 98 rfl)⟩), Or.inl rfl, Or.inl (gT_in0 98 rfl)⟩
theorem fp_Blocks_21 : gFld "ShipSets$Blocks" 21 2 3 (.int) false := ⟨R_Blocks, T_Blocks, 4, "ShipSets$Blocks", cls_Blocks, by decide, by decide +kernel, rfl, (fun h => by cases h), Or.inl rfl, Or.inl (gT_in0 99 rfl)⟩
theorem fp_Clock_9 : gFld "ShipSets$Clock" 9 3 0 (.array .long) true := ⟨R_Clock, T_Clock, 3, "ShipSets$Clock", cls_Clock, by decide, by decide +kernel, rfl, (fun _ => ⟨rfl, rfl, (gT_in0 109 rfl)⟩), Or.inl rfl, Or.inl (gT_in0 109 rfl)⟩
theorem fp_Clock_15 : gFld "ShipSets$Clock" 15 3 1 (.array .long) true := ⟨R_Clock, T_Clock, 3, "ShipSets$Clock", cls_Clock, by decide, by decide +kernel, rfl, (fun _ => ⟨rfl, rfl, (gT_in0 110 rfl)⟩), Or.inl rfl, Or.inl (gT_in0 110 rfl)⟩
theorem fp_Clock_18 : gFld "ShipSets$Clock" 18 3 2 (.int) false := ⟨R_Clock, T_Clock, 3, "ShipSets$Clock", cls_Clock, by decide, by decide +kernel, rfl, (fun h => by cases h), Or.inl rfl, Or.inl (gT_in0 111 rfl)⟩
theorem fp_Current_9 : gFld "ShipSets$Current" 9 8 0 (.array .int) true := ⟨R_Current, T_Current, 2, "ShipSets$Current", cls_Current, by decide, by decide +kernel, rfl, (fun _ => ⟨rfl, rfl, (gT_in0 55 rfl)⟩), Or.inl rfl, Or.inl (gT_in0 55 rfl)⟩
theorem fp_Current_15 : gFld "ShipSets$Current" 15 8 1 (.array .long) true := ⟨R_Current, T_Current, 2, "ShipSets$Current", cls_Current, by decide, by decide +kernel, rfl, (fun _ => ⟨rfl, rfl, (gT_in0 56 rfl)⟩), Or.inl rfl, Or.inl (gT_in0 56 rfl)⟩
theorem fp_Holding_9 : gFld "ShipSets$Holding" 9 5 0 (.array .int) true := ⟨R_Holding, T_Holding, 2, "ShipSets$Holding", cls_Holding, by decide, by decide +kernel, rfl, (fun _ => ⟨rfl, rfl, (gT_in1 125 rfl)⟩), Or.inl rfl, Or.inl (gT_in1 125 rfl)⟩
theorem fp_Holding_15 : gFld "ShipSets$Holding" 15 5 1 (.long) false := ⟨R_Holding, T_Holding, 2, "ShipSets$Holding", cls_Holding, by decide, by decide +kernel, rfl, (fun h => by cases h), Or.inl rfl, Or.inl (gT_in1 126 rfl)⟩
theorem fp_Settling_9 : gFld "ShipSets$Settling" 9 6 0 (.int) true := ⟨R_Settling, T_Settling, 3, "ShipSets$Settling", cls_Settling, by decide, by decide +kernel, rfl, (fun _ => ⟨rfl, rfl, (gT_in2 96 rfl)⟩), Or.inl rfl, Or.inl (gT_in2 96 rfl)⟩
theorem fp_Settling_15 : gFld "ShipSets$Settling" 15 6 1 (.int) true := ⟨R_Settling, T_Settling, 3, "ShipSets$Settling", cls_Settling, by decide, by decide +kernel, rfl, (fun _ => ⟨rfl, rfl, (gT_in2 97 rfl)⟩), Or.inl rfl, Or.inl (gT_in2 97 rfl)⟩
theorem fp_Settling_30 : gFld "ShipSets$Settling" 30 6 2 (.array .int) true := ⟨R_Settling, T_Settling, 3, "ShipSets$Settling", cls_Settling, by decide, by decide +kernel, rfl, (fun _ => ⟨rfl, rfl, (gT_in2 98 rfl)⟩), Or.inl rfl, Or.inl (gT_in2 98 rfl)⟩
theorem fp_ShipSet_10 : gFld "ShipSets$ShipSet" 10 4 0 (.object "ShipSets$Holding") true := ⟨R_ShipSet, T_ShipSet, 3, "ShipSets$ShipSet", cls_ShipSet, by decide, by decide +kernel, rfl, (fun _ => ⟨rfl, rfl, (gT_in1 129 rfl)⟩), Or.inl rfl, Or.inl (gT_in1 129 rfl)⟩
theorem fp_ShipSet_16 : gFld "ShipSets$ShipSet" 16 4 1 (.object "ShipSets$Holding") true := ⟨R_ShipSet, T_ShipSet, 3, "ShipSets$ShipSet", cls_ShipSet, by decide, by decide +kernel, rfl, (fun _ => ⟨rfl, rfl, (gT_in1 130 rfl)⟩), Or.inl rfl, Or.inl (gT_in1 130 rfl)⟩
theorem fp_ShipSet_19 : gFld "ShipSets$ShipSet" 19 4 2 (.boolean) false := ⟨R_ShipSet, T_ShipSet, 3, "ShipSets$ShipSet", cls_ShipSet, by decide, by decide +kernel, rfl, (fun h => by cases h), Or.inl rfl, Or.inl (gT_in1 131 rfl)⟩
theorem fp_Teller_12 : gFld "ShipSets$Teller" 12 1 0 (.object "java/util/ArrayList") true := ⟨R_Teller, T_Teller, 4, "ShipSets$Teller", cls_Teller, by decide, by decide +kernel, rfl, (fun _ => ⟨rfl, rfl, (gT_in0 115 rfl)⟩), Or.inl rfl, Or.inl (gT_in0 115 rfl)⟩
theorem fp_Teller_21 : gFld "ShipSets$Teller" 21 1 1 (.object "ShipSets$Blocks") true := ⟨R_Teller, T_Teller, 4, "ShipSets$Teller", cls_Teller, by decide, by decide +kernel, rfl, (fun _ => ⟨rfl, rfl, (gT_in0 116 rfl)⟩), Or.inl rfl, Or.inl (gT_in0 116 rfl)⟩
theorem fp_Teller_28 : gFld "ShipSets$Teller" 28 1 2 (.object "ShipSets$Clock") true := ⟨R_Teller, T_Teller, 4, "ShipSets$Teller", cls_Teller, by decide, by decide +kernel, rfl, (fun _ => ⟨rfl, rfl, (gT_in0 117 rfl)⟩), Or.inl rfl, Or.inl (gT_in0 117 rfl)⟩
theorem fp_Teller_32 : gFld "ShipSets$Teller" 32 1 3 (.boolean) false := ⟨R_Teller, T_Teller, 4, "ShipSets$Teller", cls_Teller, by decide, by decide +kernel, rfl, (fun h => by cases h), Or.inl rfl, Or.inl (gT_in0 118 rfl)⟩
theorem fp_Telling_7 : gFld "ShipSets$Telling" 7 7 0 (.int) true := ⟨R_Telling, T_Telling, 7, "ShipSets$Telling", cls_Telling, by decide, by decide +kernel, rfl, (fun _ => ⟨rfl, rfl, (gT_in1 85 rfl)⟩), Or.inl rfl, Or.inl (gT_in1 85 rfl)⟩
theorem fp_Telling_13 : gFld "ShipSets$Telling" 13 7 1 (.int) true := ⟨R_Telling, T_Telling, 7, "ShipSets$Telling", cls_Telling, by decide, by decide +kernel, rfl, (fun _ => ⟨rfl, rfl, (gT_in1 86 rfl)⟩), Or.inl rfl, Or.inl (gT_in1 86 rfl)⟩
theorem fp_Telling_16 : gFld "ShipSets$Telling" 16 7 2 (.int) true := ⟨R_Telling, T_Telling, 7, "ShipSets$Telling", cls_Telling, by decide, by decide +kernel, rfl, (fun _ => ⟨rfl, rfl, (gT_in1 87 rfl)⟩), Or.inl rfl, Or.inl (gT_in1 87 rfl)⟩
theorem fp_Telling_19 : gFld "ShipSets$Telling" 19 7 3 (.int) true := ⟨R_Telling, T_Telling, 7, "ShipSets$Telling", cls_Telling, by decide, by decide +kernel, rfl, (fun _ => ⟨rfl, rfl, (gT_in1 88 rfl)⟩), Or.inl rfl, Or.inl (gT_in1 88 rfl)⟩
theorem fp_Telling_22 : gFld "ShipSets$Telling" 22 7 4 (.long) true := ⟨R_Telling, T_Telling, 7, "ShipSets$Telling", cls_Telling, by decide, by decide +kernel, rfl, (fun _ => ⟨rfl, rfl, (gT_in1 89 rfl)⟩), Or.inl rfl, Or.inl (gT_in1 89 rfl)⟩
theorem fp_Telling_26 : gFld "ShipSets$Telling" 26 7 5 (.int) true := ⟨R_Telling, T_Telling, 7, "ShipSets$Telling", cls_Telling, by decide, by decide +kernel, rfl, (fun _ => ⟨rfl, rfl, (gT_in1 90 rfl)⟩), Or.inl rfl, Or.inl (gT_in1 90 rfl)⟩
theorem fp_Telling_29 : gFld "ShipSets$Telling" 29 7 6 (.object "ShipSets$Telling") true := ⟨R_Telling, T_Telling, 7, "ShipSets$Telling", cls_Telling, by decide, by decide +kernel, rfl, (fun _ => ⟨rfl, rfl, (gT_in1 91 rfl)⟩), Or.inl rfl, Or.inl (gT_in1 91 rfl)⟩
theorem fp_M_7 : gFld "ShipSetsModel" 7 10 1 (.array .boolean) true := ⟨R_M, T_M, 27, "ShipSetsModel", cls_M, by decide, by decide +kernel, rfl, (fun _ => ⟨rfl, rfl, (gT_in3 64 rfl)⟩), Or.inl rfl, Or.inl (gT_in3 64 rfl)⟩
theorem fp_M_13 : gFld "ShipSetsModel" 13 10 3 (.array .int) true := ⟨R_M, T_M, 27, "ShipSetsModel", cls_M, by decide, by decide +kernel, rfl, (fun _ => ⟨rfl, rfl, (gT_in3 66 rfl)⟩), Or.inl rfl, Or.inl (gT_in3 66 rfl)⟩
theorem fp_M_17 : gFld "ShipSetsModel" 17 10 4 (.array .int) true := ⟨R_M, T_M, 27, "ShipSetsModel", cls_M, by decide, by decide +kernel, rfl, (fun _ => ⟨rfl, rfl, (gT_in3 67 rfl)⟩), Or.inl rfl, Or.inl (gT_in3 67 rfl)⟩
theorem fp_M_20 : gFld "ShipSetsModel" 20 10 5 (.array .int) true := ⟨R_M, T_M, 27, "ShipSetsModel", cls_M, by decide, by decide +kernel, rfl, (fun _ => ⟨rfl, rfl, (gT_in3 68 rfl)⟩), Or.inl rfl, Or.inl (gT_in3 68 rfl)⟩
theorem fp_M_23 : gFld "ShipSetsModel" 23 10 6 (.array .int) true := ⟨R_M, T_M, 27, "ShipSetsModel", cls_M, by decide, by decide +kernel, rfl, (fun _ => ⟨rfl, rfl, (gT_in3 69 rfl)⟩), Or.inl rfl, Or.inl (gT_in3 69 rfl)⟩
theorem fp_M_26 : gFld "ShipSetsModel" 26 10 7 (.array .long) true := ⟨R_M, T_M, 27, "ShipSetsModel", cls_M, by decide, by decide +kernel, rfl, (fun _ => ⟨rfl, rfl, (gT_in3 70 rfl)⟩), Or.inl rfl, Or.inl (gT_in3 70 rfl)⟩
theorem fp_M_30 : gFld "ShipSetsModel" 30 10 8 (.array .int) true := ⟨R_M, T_M, 27, "ShipSetsModel", cls_M, by decide, by decide +kernel, rfl, (fun _ => ⟨rfl, rfl, (gT_in3 71 rfl)⟩), Or.inl rfl, Or.inl (gT_in3 71 rfl)⟩
theorem fp_M_33 : gFld "ShipSetsModel" 33 10 10 (.array .boolean) true := ⟨R_M, T_M, 27, "ShipSetsModel", cls_M, by decide, by decide +kernel, rfl, (fun _ => ⟨rfl, rfl, (gT_in3 73 rfl)⟩), Or.inl rfl, Or.inl (gT_in3 73 rfl)⟩
theorem fp_M_36 : gFld "ShipSetsModel" 36 10 11 (.array .boolean) true := ⟨R_M, T_M, 27, "ShipSetsModel", cls_M, by decide, by decide +kernel, rfl, (fun _ => ⟨rfl, rfl, (gT_in3 74 rfl)⟩), Or.inl rfl, Or.inl (gT_in3 74 rfl)⟩
theorem fp_M_39 : gFld "ShipSetsModel" 39 10 12 (.array .boolean) true := ⟨R_M, T_M, 27, "ShipSetsModel", cls_M, by decide, by decide +kernel, rfl, (fun _ => ⟨rfl, rfl, (gT_in3 75 rfl)⟩), Or.inl rfl, Or.inl (gT_in3 75 rfl)⟩
theorem fp_M_42 : gFld "ShipSetsModel" 42 10 14 (.array .int) true := ⟨R_M, T_M, 27, "ShipSetsModel", cls_M, by decide, by decide +kernel, rfl, (fun _ => ⟨rfl, rfl, (gT_in3 77 rfl)⟩), Or.inl rfl, Or.inl (gT_in3 77 rfl)⟩
theorem fp_M_45 : gFld "ShipSetsModel" 45 10 15 (.array .int) true := ⟨R_M, T_M, 27, "ShipSetsModel", cls_M, by decide, by decide +kernel, rfl, (fun _ => ⟨rfl, rfl, (gT_in3 78 rfl)⟩), Or.inl rfl, Or.inl (gT_in3 78 rfl)⟩
theorem fp_M_48 : gFld "ShipSetsModel" 48 10 16 (.array .int) true := ⟨R_M, T_M, 27, "ShipSetsModel", cls_M, by decide, by decide +kernel, rfl, (fun _ => ⟨rfl, rfl, (gT_in3 79 rfl)⟩), Or.inl rfl, Or.inl (gT_in3 79 rfl)⟩
theorem fp_M_51 : gFld "ShipSetsModel" 51 10 17 (.array .boolean) true := ⟨R_M, T_M, 27, "ShipSetsModel", cls_M, by decide, by decide +kernel, rfl, (fun _ => ⟨rfl, rfl, (gT_in3 80 rfl)⟩), Or.inl rfl, Or.inl (gT_in3 80 rfl)⟩
theorem fp_M_54 : gFld "ShipSetsModel" 54 10 18 (.array .boolean) true := ⟨R_M, T_M, 27, "ShipSetsModel", cls_M, by decide, by decide +kernel, rfl, (fun _ => ⟨rfl, rfl, (gT_in3 81 rfl)⟩), Or.inl rfl, Or.inl (gT_in3 81 rfl)⟩
theorem fp_M_57 : gFld "ShipSetsModel" 57 10 19 (.array .int) true := ⟨R_M, T_M, 27, "ShipSetsModel", cls_M, by decide, by decide +kernel, rfl, (fun _ => ⟨rfl, rfl, (gT_in3 82 rfl)⟩), Or.inl rfl, Or.inl (gT_in3 82 rfl)⟩
theorem fp_M_60 : gFld "ShipSetsModel" 60 10 20 (.array .int) true := ⟨R_M, T_M, 27, "ShipSetsModel", cls_M, by decide, by decide +kernel, rfl, (fun _ => ⟨rfl, rfl, (gT_in3 83 rfl)⟩), Or.inl rfl, Or.inl (gT_in3 83 rfl)⟩
theorem fp_M_63 : gFld "ShipSetsModel" 63 10 21 (.array .int) true := ⟨R_M, T_M, 27, "ShipSetsModel", cls_M, by decide, by decide +kernel, rfl, (fun _ => ⟨rfl, rfl, (gT_in3 84 rfl)⟩), Or.inl rfl, Or.inl (gT_in3 84 rfl)⟩
theorem fp_M_67 : gFld "ShipSetsModel" 67 10 22 (.array .boolean) true := ⟨R_M, T_M, 27, "ShipSetsModel", cls_M, by decide, by decide +kernel, rfl, (fun _ => ⟨rfl, rfl, (gT_in3 85 rfl)⟩), Or.inl rfl, Or.inl (gT_in3 85 rfl)⟩
theorem fp_M_70 : gFld "ShipSetsModel" 70 10 23 (.array .int) true := ⟨R_M, T_M, 27, "ShipSetsModel", cls_M, by decide, by decide +kernel, rfl, (fun _ => ⟨rfl, rfl, (gT_in3 86 rfl)⟩), Or.inl rfl, Or.inl (gT_in3 86 rfl)⟩
theorem fp_M_73 : gFld "ShipSetsModel" 73 10 24 (.array .long) true := ⟨R_M, T_M, 27, "ShipSetsModel", cls_M, by decide, by decide +kernel, rfl, (fun _ => ⟨rfl, rfl, (gT_in3 87 rfl)⟩), Or.inl rfl, Or.inl (gT_in3 87 rfl)⟩
theorem fp_M_76 : gFld "ShipSetsModel" 76 10 25 (.array .long) true := ⟨R_M, T_M, 27, "ShipSetsModel", cls_M, by decide, by decide +kernel, rfl, (fun _ => ⟨rfl, rfl, (gT_in3 88 rfl)⟩), Or.inl rfl, Or.inl (gT_in3 88 rfl)⟩
theorem fp_M_79 : gFld "ShipSetsModel" 79 10 26 (.array .boolean) true := ⟨R_M, T_M, 27, "ShipSetsModel", cls_M, by decide, by decide +kernel, rfl, (fun _ => ⟨rfl, rfl, (gT_in3 89 rfl)⟩), Or.inl rfl, Or.inl (gT_in3 89 rfl)⟩
theorem fp_M_82 : gFld "ShipSetsModel" 82 10 0 (.int) false := ⟨R_M, T_M, 27, "ShipSetsModel", cls_M, by decide, by decide +kernel, rfl, (fun h => by cases h), Or.inl rfl, Or.inl (gT_in3 63 rfl)⟩
theorem fp_M_86 : gFld "ShipSetsModel" 86 10 9 (.int) false := ⟨R_M, T_M, 27, "ShipSetsModel", cls_M, by decide, by decide +kernel, rfl, (fun h => by cases h), Or.inl rfl, Or.inl (gT_in3 72 rfl)⟩
theorem fp_M_89 : gFld "ShipSetsModel" 89 10 2 (.int) false := ⟨R_M, T_M, 27, "ShipSetsModel", cls_M, by decide, by decide +kernel, rfl, (fun h => by cases h), Or.inl rfl, Or.inl (gT_in3 65 rfl)⟩
theorem fp_M_126 : gFld "ShipSetsModel" 126 10 13 (.int) false := ⟨R_M, T_M, 27, "ShipSetsModel", cls_M, by decide, by decide +kernel, rfl, (fun h => by cases h), Or.inl rfl, Or.inl (gT_in3 76 rfl)⟩
theorem fp_AbstractList_7 : gFld "java/util/AbstractList" 7 9 2 (.int) false := ⟨R_AL, T_AL, 3, "java/util/AbstractList", cls_AL, by decide, by decide +kernel, rfl, (fun h => by cases h), Or.inl rfl, Or.inl (gT_in0 43 rfl)⟩
theorem fp_AL_9 : gFld "java/util/ArrayList" 9 9 0 (.array (.object "java/lang/Object")) false := ⟨R_AL, T_AL, 3, "java/util/ArrayList", cls_AL, by decide, by decide +kernel, rfl, (fun h => by cases h), Or.inl rfl, Or.inl (gT_in0 41 rfl)⟩
theorem fp_AL_48 : gFld "java/util/ArrayList" 48 9 1 (.int) false := ⟨R_AL, T_AL, 3, "java/util/ArrayList", cls_AL, by decide, by decide +kernel, rfl, (fun h => by cases h), Or.inl rfl, Or.inl (gT_in0 42 rfl)⟩
theorem fp_AL_63 : gFld "java/util/ArrayList" 63 9 2 (.int) false := ⟨R_AL, T_AL, 3, "java/util/ArrayList", cls_AL, by decide, by decide +kernel, rfl, (fun h => by cases h), Or.inr (gT_in0 45 rfl), Or.inl (gT_in0 44 rfl)⟩
theorem nw_S_11 : gNew "ShipSets" 11 9 3 [.null, .int 0, .int 0] := ⟨R_AL, T_AL, ty_AL, rfl, cls_AL.2.1, by decide +kernel, (gT_in0 28 rfl), (gT_in0 29 rfl), (gT_in0 4 rfl), fun j hj => by
    match j, hj with
    | 0, _ => rfl
    | 1, _ => rfl
    | 2, _ => rfl
    | j + 3, hj => exact absurd hj (by omega)⟩
theorem nw_S_24 : gNew "ShipSets" 24 7 7 [.int 0, .int 0, .int 0, .int 0, .long 0, .int 0, .null] := ⟨R_Telling, T_Telling, ty_Telling, rfl, cls_Telling.2.1, by decide +kernel, (gT_in0 49 rfl), (gT_in1 80 rfl), (gT_in0 16 rfl), fun j hj => by
    match j, hj with
    | 0, _ => rfl
    | 1, _ => rfl
    | 2, _ => rfl
    | 3, _ => rfl
    | 4, _ => rfl
    | 5, _ => rfl
    | 6, _ => rfl
    | j + 7, hj => exact absurd hj (by omega)⟩
theorem nw_S_34 : gNew "ShipSets" 34 8 2 [.null, .null] := ⟨R_Current, T_Current, ty_Current, rfl, cls_Current.2.1, by decide +kernel, (gT_in0 50 rfl), (gT_in0 51 rfl), (gT_in0 5 rfl), fun j hj => by
    match j, hj with
    | 0, _ => rfl
    | 1, _ => rfl
    | j + 2, hj => exact absurd hj (by omega)⟩
theorem nw_S_49 : gNew "ShipSets" 49 1 4 [.null, .null, .null, .int 0] := ⟨R_Teller, T_Teller, ty_Teller, rfl, cls_Teller.2.1, by decide +kernel, (gT_in0 84 rfl), (gT_in0 85 rfl), (gT_in0 7 rfl), fun j hj => by
    match j, hj with
    | 0, _ => rfl
    | 1, _ => rfl
    | 2, _ => rfl
    | 3, _ => rfl
    | j + 4, hj => exact absurd hj (by omega)⟩
theorem nw_S_97 : gNew "ShipSets" 97 4 3 [.null, .null, .int 0] := ⟨R_ShipSet, T_ShipSet, ty_ShipSet, rfl, cls_ShipSet.2.1, by decide +kernel, (gT_in1 115 rfl), (gT_in1 116 rfl), (gT_in0 17 rfl), fun j hj => by
    match j, hj with
    | 0, _ => rfl
    | 1, _ => rfl
    | 2, _ => rfl
    | j + 3, hj => exact absurd hj (by omega)⟩
theorem nw_S_151 : gNew "ShipSets" 151 6 3 [.int 0, .int 0, .null] := ⟨R_Settling, T_Settling, ty_Settling, rfl, cls_Settling.2.1, by decide +kernel, (gT_in2 37 rfl), (gT_in2 82 rfl), (gT_in0 19 rfl), fun j hj => by
    match j, hj with
    | 0, _ => rfl
    | 1, _ => rfl
    | 2, _ => rfl
    | j + 3, hj => exact absurd hj (by omega)⟩
theorem nw_ShipSet_7 : gNew "ShipSets$ShipSet" 7 5 2 [.null, .long 0] := ⟨R_Holding, T_Holding, ty_Holding, rfl, cls_Holding.2.1, by decide +kernel, (gT_in1 120 rfl), (gT_in1 121 rfl), (gT_in0 18 rfl), fun j hj => by
    match j, hj with
    | 0, _ => rfl
    | 1, _ => rfl
    | j + 2, hj => exact absurd hj (by omega)⟩
theorem nw_Teller_9 : gNew "ShipSets$Teller" 9 9 3 [.null, .int 0, .int 0] := ⟨R_AL, T_AL, ty_AL, rfl, cls_AL.2.1, by decide +kernel, (gT_in0 89 rfl), (gT_in0 29 rfl), (gT_in0 4 rfl), fun j hj => by
    match j, hj with
    | 0, _ => rfl
    | 1, _ => rfl
    | 2, _ => rfl
    | j + 3, hj => exact absurd hj (by omega)⟩
theorem nw_Teller_18 : gNew "ShipSets$Teller" 18 2 4 [.null, .null, .null, .int 0] := ⟨R_Blocks, T_Blocks, ty_Blocks, rfl, cls_Blocks.2.1, by decide +kernel, (gT_in0 91 rfl), (gT_in0 92 rfl), (gT_in0 8 rfl), fun j hj => by
    match j, hj with
    | 0, _ => rfl
    | 1, _ => rfl
    | 2, _ => rfl
    | 3, _ => rfl
    | j + 4, hj => exact absurd hj (by omega)⟩
theorem nw_Teller_25 : gNew "ShipSets$Teller" 25 3 3 [.null, .null, .int 0] := ⟨R_Clock, T_Clock, ty_Clock, rfl, cls_Clock.2.1, by decide +kernel, (gT_in0 104 rfl), (gT_in0 105 rfl), (gT_in0 9 rfl), fun j hj => by
    match j, hj with
    | 0, _ => rfl
    | 1, _ => rfl
    | 2, _ => rfl
    | j + 3, hj => exact absurd hj (by omega)⟩
theorem nw_Law_7 : gNew "ShipSetsLaw" 7 0 7 [.null, .null, .null, .null, .null, .null, .int 0] := ⟨R_S, T_S, ty_S, rfl, cls_S.2.1, by decide +kernel, (gT_in0 20 rfl), (gT_in0 21 rfl), (gT_in0 1 rfl), fun j hj => by
    match j, hj with
    | 0, _ => rfl
    | 1, _ => rfl
    | 2, _ => rfl
    | 3, _ => rfl
    | 4, _ => rfl
    | 5, _ => rfl
    | 6, _ => rfl
    | j + 7, hj => exact absurd hj (by omega)⟩
theorem nw_Law_10 : gNew "ShipSetsLaw" 10 10 27 [.int 0, .null, .int 0, .null, .null, .null, .null, .null, .null, .int 0, .null, .null, .null, .int 0, .null, .null, .null, .null, .null, .null, .null, .null, .null, .null, .null, .null, .null] := ⟨R_M, T_M, ty_M, rfl, cls_M.2.1, by decide +kernel, (gT_in3 56 rfl), (gT_in3 57 rfl), (gT_in0 6 rfl), fun j hj => by
    match j, hj with
    | 0, _ => rfl
    | 1, _ => rfl
    | 2, _ => rfl
    | 3, _ => rfl
    | 4, _ => rfl
    | 5, _ => rfl
    | 6, _ => rfl
    | 7, _ => rfl
    | 8, _ => rfl
    | 9, _ => rfl
    | 10, _ => rfl
    | 11, _ => rfl
    | 12, _ => rfl
    | 13, _ => rfl
    | 14, _ => rfl
    | 15, _ => rfl
    | 16, _ => rfl
    | 17, _ => rfl
    | 18, _ => rfl
    | 19, _ => rfl
    | 20, _ => rfl
    | 21, _ => rfl
    | 22, _ => rfl
    | 23, _ => rfl
    | 24, _ => rfl
    | 25, _ => rfl
    | 26, _ => rfl
    | j + 27, hj => exact absurd hj (by omega)⟩
theorem cf_S_13 : gCi "ShipSets" 13 y_AL_init Y_AL_init := ⟨⟨rfl, (gT_in0 32 rfl), (gT_in0 4 rfl), by decide +kernel, by decide +kernel, Or.inl (gT_in0 30 rfl)⟩, (gT_in0 31 rfl), rfl, rfl⟩
theorem cf_S_36 : gCi "ShipSets" 36 y_Current_init Y_Current_init := ⟨⟨rfl, (gT_in0 53 rfl), (gT_in0 5 rfl), by decide +kernel, by decide +kernel, Or.inr ⟨"ShipSets", by decide +kernel⟩⟩, (gT_in0 52 rfl), rfl, rfl⟩
theorem cf_S_45 : gCv "ShipSets" 45 y_AL_size Y_AL_size 9 := ⟨⟨rfl, (gT_in0 83 rfl), (gT_in0 4 rfl), by decide +kernel, by decide +kernel, Or.inl (gT_in0 80 rfl)⟩, (gT_in0 81 rfl), (gT_in0 82 rfl), T_AL, 3, rfl⟩
theorem cf_S_51 : gCi "ShipSets" 51 y_Teller_init Y_Teller_init := ⟨⟨rfl, (gT_in0 87 rfl), (gT_in0 7 rfl), by decide +kernel, by decide +kernel, Or.inr ⟨"ShipSets", by decide +kernel⟩⟩, (gT_in0 86 rfl), rfl, rfl⟩
theorem cf_S_52 : gCv "ShipSets" 52 y_AL_add Y_AL_add 9 := ⟨⟨rfl, (gT_in0 126 rfl), (gT_in0 4 rfl), by decide +kernel, by decide +kernel, Or.inl (gT_in0 123 rfl)⟩, (gT_in0 124 rfl), (gT_in0 125 rfl), T_AL, 3, rfl⟩
theorem cf_S_56 : gCv "ShipSets" 56 y_S_tellerAt Y_S_tellerAt 0 := ⟨⟨rfl, (gT_in1 33 rfl), (gT_in0 1 rfl), by decide +kernel, by decide +kernel, Or.inl (gT_in1 31 rfl)⟩, (gT_in1 32 rfl), (gT_ins 3 rfl), T_S, 7, rfl⟩
theorem cf_S_60 : gCs "ShipSets" 60 y_S_cellOf Y_S_cellOf := ⟨⟨rfl, (gT_in1 50 rfl), (gT_in0 1 rfl), by decide +kernel, by decide +kernel, Or.inl (gT_in1 48 rfl)⟩, (gT_in1 49 rfl)⟩
theorem cf_S_64 : gCs "ShipSets" 64 y_S_isNumber Y_S_isNumber := ⟨⟨rfl, (gT_in1 56 rfl), (gT_in0 1 rfl), by decide +kernel, by decide +kernel, Or.inl (gT_in1 54 rfl)⟩, (gT_in1 55 rfl)⟩
theorem cf_S_68 : gCs "ShipSets" 68 y_S_isValue Y_S_isValue := ⟨⟨rfl, (gT_in1 59 rfl), (gT_in0 1 rfl), by decide +kernel, by decide +kernel, Or.inl (gT_in1 57 rfl)⟩, (gT_in1 58 rfl)⟩
theorem cf_S_72 : gCs "ShipSets" 72 y_S_isDay Y_S_isDay := ⟨⟨rfl, (gT_in1 64 rfl), (gT_in0 1 rfl), by decide +kernel, by decide +kernel, Or.inl (gT_in1 62 rfl)⟩, (gT_in1 63 rfl)⟩
theorem cf_S_75 : gCv "ShipSets" 75 y_Teller_toldWith Y_Teller_toldWith 1 := ⟨⟨rfl, (gT_in1 69 rfl), (gT_in0 7 rfl), by decide +kernel, by decide +kernel, Or.inl (gT_in1 66 rfl)⟩, (gT_in1 67 rfl), (gT_in1 68 rfl), T_Teller, 4, rfl⟩
theorem cf_S_79 : gCv "ShipSets" 79 y_Telling_says Y_Telling_says 7 := ⟨⟨rfl, (gT_in1 79 rfl), (gT_in0 16 rfl), by decide +kernel, by decide +kernel, Or.inl (gT_in1 76 rfl)⟩, (gT_in1 77 rfl), (gT_in1 78 rfl), T_Telling, 7, rfl⟩
theorem cf_S_90 : gCi "ShipSets" 90 y_Telling_init Y_Telling_init := ⟨⟨rfl, (gT_in1 83 rfl), (gT_in0 16 rfl), by decide +kernel, by decide +kernel, Or.inl (gT_in1 81 rfl)⟩, (gT_in1 82 rfl), rfl, rfl⟩
theorem cf_S_93 : gCv "ShipSets" 93 y_Teller_keep Y_Teller_keep 1 := ⟨⟨rfl, (gT_in1 102 rfl), (gT_in0 7 rfl), by decide +kernel, by decide +kernel, Or.inl (gT_in1 99 rfl)⟩, (gT_in1 100 rfl), (gT_in1 101 rfl), T_Teller, 4, rfl⟩
theorem cf_S_99 : gCi "ShipSets" 99 y_ShipSet_init Y_ShipSet_init := ⟨⟨rfl, (gT_in1 118 rfl), (gT_in0 17 rfl), by decide +kernel, by decide +kernel, Or.inr ⟨"ShipSets", by decide +kernel⟩⟩, (gT_in1 117 rfl), rfl, rfl⟩
theorem cf_S_110 : gCv "ShipSets" 110 y_S_setAt Y_S_setAt 0 := ⟨⟨rfl, (gT_in1 141 rfl), (gT_in0 1 rfl), by decide +kernel, by decide +kernel, Or.inl (gT_in1 139 rfl)⟩, (gT_in1 140 rfl), (gT_ins 6 rfl), T_S, 7, rfl⟩
theorem cf_S_114 : gCv "ShipSets" 114 y_Holding_takeAllOf Y_Holding_takeAllOf 5 := ⟨⟨rfl, (gT_in1 145 rfl), (gT_in0 18 rfl), by decide +kernel, by decide +kernel, Or.inl (gT_in1 142 rfl)⟩, (gT_in1 143 rfl), (gT_in1 144 rfl), T_Holding, 2, rfl⟩
theorem cf_S_118 : gCv "ShipSets" 118 y_S_countConflicts Y_S_countConflicts 0 := ⟨⟨rfl, (gT_in1 149 rfl), (gT_in0 1 rfl), by decide +kernel, by decide +kernel, Or.inl (gT_in1 147 rfl)⟩, (gT_in1 148 rfl), (gT_ins 7 rfl), T_S, 7, rfl⟩
theorem cf_S_122 : gCv "ShipSets" 122 y_Holding_isSameAs Y_Holding_isSameAs 5 := ⟨⟨rfl, (gT_in2 61 rfl), (gT_in0 18 rfl), by decide +kernel, by decide +kernel, Or.inl (gT_in2 58 rfl)⟩, (gT_in2 59 rfl), (gT_in2 60 rfl), T_Holding, 2, rfl⟩
theorem cf_S_128 : gCv "ShipSets" 128 y_S_valueOn Y_S_valueOn 0 := ⟨⟨rfl, (gT_in2 5 rfl), (gT_in0 1 rfl), by decide +kernel, by decide +kernel, Or.inl (gT_in2 3 rfl)⟩, (gT_in2 4 rfl), (gT_ins 9 rfl), T_S, 7, rfl⟩
theorem cf_S_132 : gCv "ShipSets" 132 y_S_cellInConflict Y_S_cellInConflict 0 := ⟨⟨rfl, (gT_in2 72 rfl), (gT_in0 1 rfl), by decide +kernel, by decide +kernel, Or.inl (gT_in2 70 rfl)⟩, (gT_in2 71 rfl), (gT_ins 12 rfl), T_S, 7, rfl⟩
theorem cf_S_137 : gCv "ShipSets" 137 y_S_findCurrent Y_S_findCurrent 0 := ⟨⟨rfl, (gT_in2 8 rfl), (gT_in0 1 rfl), by decide +kernel, by decide +kernel, Or.inl (gT_in2 6 rfl)⟩, (gT_in2 7 rfl), (gT_ins 10 rfl), T_S, 7, rfl⟩
theorem cf_S_141 : gCv "ShipSets" 141 y_Current_count Y_Current_count 8 := ⟨⟨rfl, (gT_in2 53 rfl), (gT_in0 5 rfl), by decide +kernel, by decide +kernel, Or.inl (gT_in2 50 rfl)⟩, (gT_in2 51 rfl), (gT_in2 52 rfl), T_Current, 2, rfl⟩
theorem cf_S_144 : gCv "ShipSets" 144 y_Current_has Y_Current_has 8 := ⟨⟨rfl, (gT_in2 32 rfl), (gT_in0 5 rfl), by decide +kernel, by decide +kernel, Or.inl (gT_in2 77 rfl)⟩, (gT_in2 30 rfl), (gT_in2 31 rfl), T_Current, 2, rfl⟩
theorem cf_S_147 : gCv "ShipSets" 147 y_Holding_takeSettling Y_Holding_takeSettling 5 := ⟨⟨rfl, (gT_in2 81 rfl), (gT_in0 18 rfl), by decide +kernel, by decide +kernel, Or.inl (gT_in2 78 rfl)⟩, (gT_in2 79 rfl), (gT_in2 80 rfl), T_Holding, 2, rfl⟩
theorem cf_S_153 : gCi "ShipSets" 153 y_Settling_init Y_Settling_init := ⟨⟨rfl, (gT_in2 85 rfl), (gT_in0 19 rfl), by decide +kernel, by decide +kernel, Or.inl (gT_in2 83 rfl)⟩, (gT_in2 84 rfl), rfl, rfl⟩
theorem cf_S_162 : gCv "ShipSets" 162 y_Holding_becomeLike Y_Holding_becomeLike 5 := ⟨⟨rfl, (gT_in2 109 rfl), (gT_in0 18 rfl), by decide +kernel, by decide +kernel, Or.inl (gT_in2 106 rfl)⟩, (gT_in2 107 rfl), (gT_in2 108 rfl), T_Holding, 2, rfl⟩
theorem cf_S_165 : gCs "ShipSets" 165 y_S_isPerson Y_S_isPerson := ⟨⟨rfl, (gT_in2 121 rfl), (gT_in0 1 rfl), by decide +kernel, by decide +kernel, Or.inl (gT_in2 119 rfl)⟩, (gT_in2 120 rfl)⟩
theorem cf_S_168 : gCs "ShipSets" 168 y_S_isKind Y_S_isKind := ⟨⟨rfl, (gT_in1 53 rfl), (gT_in0 1 rfl), by decide +kernel, by decide +kernel, Or.inl (gT_in1 51 rfl)⟩, (gT_in1 52 rfl)⟩
theorem cf_S_175 : gCv "ShipSets" 175 y_Blocks_add Y_Blocks_add 2 := ⟨⟨rfl, (gT_in2 133 rfl), (gT_in0 8 rfl), by decide +kernel, by decide +kernel, Or.inl (gT_in2 130 rfl)⟩, (gT_in2 131 rfl), (gT_in2 132 rfl), T_Blocks, 4, rfl⟩
theorem cf_S_180 : gCv "ShipSets" 180 y_Teller_giveNumber Y_Teller_giveNumber 1 := ⟨⟨rfl, (gT_in2 146 rfl), (gT_in0 7 rfl), by decide +kernel, by decide +kernel, Or.inl (gT_in2 143 rfl)⟩, (gT_in2 144 rfl), (gT_in2 145 rfl), T_Teller, 4, rfl⟩
theorem cf_S_183 : gCv "ShipSets" 183 y_Teller_endOfLostSpan Y_Teller_endOfLostSpan 1 := ⟨⟨rfl, (gT_in3 5 rfl), (gT_in0 7 rfl), by decide +kernel, by decide +kernel, Or.inl (gT_in3 2 rfl)⟩, (gT_in3 3 rfl), (gT_in3 4 rfl), T_Teller, 4, rfl⟩
theorem cf_S_186 : gCs "ShipSets" 186 y_S_isSecond Y_S_isSecond := ⟨⟨rfl, (gT_in3 30 rfl), (gT_in0 1 rfl), by decide +kernel, by decide +kernel, Or.inl (gT_in3 28 rfl)⟩, (gT_in3 29 rfl)⟩
theorem cf_S_193 : gCv "ShipSets" 193 y_Clock_add Y_Clock_add 3 := ⟨⟨rfl, (gT_in3 34 rfl), (gT_in0 9 rfl), by decide +kernel, by decide +kernel, Or.inl (gT_in3 31 rfl)⟩, (gT_in3 32 rfl), (gT_in3 33 rfl), T_Clock, 3, rfl⟩
theorem cf_S_200 : gCv "ShipSets" 200 y_Clock_trueSecond Y_Clock_trueSecond 3 := ⟨⟨rfl, (gT_in3 43 rfl), (gT_in0 9 rfl), by decide +kernel, by decide +kernel, Or.inl (gT_in3 40 rfl)⟩, (gT_in3 41 rfl), (gT_in3 42 rfl), T_Clock, 3, rfl⟩
theorem cf_S_208 : gCv "ShipSets" 208 y_AL_get Y_AL_get 9 := ⟨⟨rfl, (gT_in1 37 rfl), (gT_in0 4 rfl), by decide +kernel, by decide +kernel, Or.inl (gT_in1 34 rfl)⟩, (gT_in1 35 rfl), (gT_in1 36 rfl), T_AL, 3, rfl⟩
theorem cf_S_212 : gCv "ShipSets" 212 y_Current_clear Y_Current_clear 8 := ⟨⟨rfl, (gT_in2 12 rfl), (gT_in0 5 rfl), by decide +kernel, by decide +kernel, Or.inl (gT_in2 9 rfl)⟩, (gT_in2 10 rfl), (gT_in2 11 rfl), T_Current, 2, rfl⟩
theorem cf_S_218 : gCv "ShipSets" 218 y_Holding_has Y_Holding_has 5 := ⟨⟨rfl, (gT_in2 19 rfl), (gT_in0 18 rfl), by decide +kernel, by decide +kernel, Or.inl (gT_in2 16 rfl)⟩, (gT_in2 17 rfl), (gT_in2 18 rfl), T_Holding, 2, rfl⟩
theorem cf_S_221 : gCv "ShipSets" 221 y_Current_offer Y_Current_offer 8 := ⟨⟨rfl, (gT_in2 23 rfl), (gT_in0 5 rfl), by decide +kernel, by decide +kernel, Or.inl (gT_in2 20 rfl)⟩, (gT_in2 21 rfl), (gT_in2 22 rfl), T_Current, 2, rfl⟩
theorem cf_S_228 : gCv "ShipSets" 228 y_Current_commonValue Y_Current_commonValue 8 := ⟨⟨rfl, (gT_in2 27 rfl), (gT_in0 5 rfl), by decide +kernel, by decide +kernel, Or.inl (gT_in2 24 rfl)⟩, (gT_in2 25 rfl), (gT_in2 26 rfl), T_Current, 2, rfl⟩
theorem cf_S_232 : gCv "ShipSets" 232 y_S_settledValue Y_S_settledValue 0 := ⟨⟨rfl, (gT_in2 36 rfl), (gT_in0 1 rfl), by decide +kernel, by decide +kernel, Or.inl (gT_in2 34 rfl)⟩, (gT_in2 35 rfl), (gT_ins 11 rfl), T_S, 7, rfl⟩
theorem cf_S_236 : gCv "ShipSets" 236 y_Holding_hasSettling Y_Holding_hasSettling 5 := ⟨⟨rfl, (gT_in2 41 rfl), (gT_in0 18 rfl), by decide +kernel, by decide +kernel, Or.inl (gT_in2 38 rfl)⟩, (gT_in2 39 rfl), (gT_in2 40 rfl), T_Holding, 2, rfl⟩
theorem cf_S_239 : gCv "ShipSets" 239 y_Settling_isMadeFor Y_Settling_isMadeFor 6 := ⟨⟨rfl, (gT_in2 45 rfl), (gT_in0 19 rfl), by decide +kernel, by decide +kernel, Or.inl (gT_in2 42 rfl)⟩, (gT_in2 43 rfl), (gT_in2 44 rfl), T_Settling, 3, rfl⟩
theorem cf_S_246 : gCv "ShipSets" 246 y_Current_valueBy Y_Current_valueBy 8 := ⟨⟨rfl, (gT_in2 49 rfl), (gT_in0 5 rfl), by decide +kernel, by decide +kernel, Or.inl (gT_in2 46 rfl)⟩, (gT_in2 47 rfl), (gT_in2 48 rfl), T_Current, 2, rfl⟩
theorem cf_S_250 : gCv "ShipSets" 250 y_S_isInConflict Y_S_isInConflict 0 := ⟨⟨rfl, (gT_in2 2 rfl), (gT_in0 1 rfl), by decide +kernel, by decide +kernel, Or.inl (gT_in2 0 rfl)⟩, (gT_in2 1 rfl), (gT_ins 8 rfl), T_S, 7, rfl⟩
theorem cf_Blocks_25 : gCv "ShipSets$Blocks" 25 y_Blocks_firstFrom Y_Blocks_firstFrom 2 := ⟨⟨rfl, (gT_in2 137 rfl), (gT_in0 8 rfl), by decide +kernel, by decide +kernel, Or.inl (gT_in2 134 rfl)⟩, (gT_in2 135 rfl), (gT_in2 136 rfl), T_Blocks, 4, rfl⟩
theorem cf_Clock_22 : gCv "ShipSets$Clock" 22 y_Clock_lineFor Y_Clock_lineFor 3 := ⟨⟨rfl, (gT_in3 46 rfl), (gT_in0 9 rfl), by decide +kernel, by decide +kernel, Or.inl (gT_in3 44 rfl)⟩, (gT_in3 45 rfl), (gT_ins 14 rfl), T_Clock, 3, rfl⟩
theorem cf_Clock_26 : gCs "ShipSets$Clock" 26 y_Clock_greatestDivisor Y_Clock_greatestDivisor := ⟨⟨rfl, (gT_in3 49 rfl), (gT_in0 9 rfl), by decide +kernel, by decide +kernel, Or.inl (gT_in3 47 rfl)⟩, (gT_in3 48 rfl)⟩
theorem cf_Current_19 : gCs "ShipSets$Current" 19 y_Arrays_fill Y_Arrays_fill := ⟨⟨rfl, (gT_in2 15 rfl), (gT_in0 12 rfl), by decide +kernel, by decide +kernel, Or.inl (gT_in2 13 rfl)⟩, (gT_in2 14 rfl)⟩
theorem cf_Current_38 : gCv "ShipSets$Current" 38 y_Current_has Y_Current_has 8 := ⟨⟨rfl, (gT_in2 32 rfl), (gT_in0 5 rfl), by decide +kernel, by decide +kernel, Or.inl (gT_in2 29 rfl)⟩, (gT_in2 30 rfl), (gT_in2 31 rfl), T_Current, 2, rfl⟩
theorem cf_Settling_24 : gCs "ShipSets$Settling" 24 y_Arrays_copyOf3 Y_Arrays_copyOf3 := ⟨⟨rfl, (gT_in2 89 rfl), (gT_in0 12 rfl), by decide +kernel, by decide +kernel, Or.inl (gT_in2 87 rfl)⟩, (gT_in2 88 rfl)⟩
theorem cf_ShipSet_9 : gCi "ShipSets$ShipSet" 9 y_Holding_init Y_Holding_init := ⟨⟨rfl, (gT_in1 123 rfl), (gT_in0 18 rfl), by decide +kernel, by decide +kernel, Or.inr ⟨"ShipSets", by decide +kernel⟩⟩, (gT_in1 122 rfl), rfl, rfl⟩
theorem cf_Teller_11 : gCi "ShipSets$Teller" 11 y_AL_init Y_AL_init := ⟨⟨rfl, (gT_in0 32 rfl), (gT_in0 4 rfl), by decide +kernel, by decide +kernel, Or.inl (gT_in0 90 rfl)⟩, (gT_in0 31 rfl), rfl, rfl⟩
theorem cf_Teller_20 : gCi "ShipSets$Teller" 20 y_Blocks_init Y_Blocks_init := ⟨⟨rfl, (gT_in0 94 rfl), (gT_in0 8 rfl), by decide +kernel, by decide +kernel, Or.inr ⟨"ShipSets", by decide +kernel⟩⟩, (gT_in0 93 rfl), rfl, rfl⟩
theorem cf_Teller_27 : gCi "ShipSets$Teller" 27 y_Clock_init Y_Clock_init := ⟨⟨rfl, (gT_in0 107 rfl), (gT_in0 9 rfl), by decide +kernel, by decide +kernel, Or.inr ⟨"ShipSets", by decide +kernel⟩⟩, (gT_in0 106 rfl), rfl, rfl⟩
theorem cf_Teller_36 : gCv "ShipSets$Teller" 36 y_AL_size Y_AL_size 9 := ⟨⟨rfl, (gT_in0 83 rfl), (gT_in0 4 rfl), by decide +kernel, by decide +kernel, Or.inl (gT_in1 73 rfl)⟩, (gT_in0 81 rfl), (gT_in0 82 rfl), T_AL, 3, rfl⟩
theorem cf_Teller_40 : gCv "ShipSets$Teller" 40 y_AL_get Y_AL_get 9 := ⟨⟨rfl, (gT_in1 37 rfl), (gT_in0 4 rfl), by decide +kernel, by decide +kernel, Or.inl (gT_in1 74 rfl)⟩, (gT_in1 35 rfl), (gT_in1 36 rfl), T_AL, 3, rfl⟩
theorem cf_Teller_50 : gCv "ShipSets$Teller" 50 y_Teller_placeOf Y_Teller_placeOf 1 := ⟨⟨rfl, (gT_in1 72 rfl), (gT_in0 7 rfl), by decide +kernel, by decide +kernel, Or.inl (gT_in1 70 rfl)⟩, (gT_in1 71 rfl), (gT_ins 4 rfl), T_Teller, 4, rfl⟩
theorem cf_Teller_54 : gCv "ShipSets$Teller" 54 y_AL_add3 Y_AL_add3 9 := ⟨⟨rfl, (gT_in1 106 rfl), (gT_in0 4 rfl), by decide +kernel, by decide +kernel, Or.inl (gT_in1 103 rfl)⟩, (gT_in1 104 rfl), (gT_in1 105 rfl), T_AL, 3, rfl⟩
theorem cf_Teller_68 : gCv "ShipSets$Teller" 68 y_Teller_toldWith Y_Teller_toldWith 1 := ⟨⟨rfl, (gT_in1 69 rfl), (gT_in0 7 rfl), by decide +kernel, by decide +kernel, Or.inl (gT_in2 147 rfl)⟩, (gT_in1 67 rfl), (gT_in1 68 rfl), T_Teller, 4, rfl⟩
theorem cf_Teller_72 : gCv "ShipSets$Teller" 72 y_AL_isEmpty Y_AL_isEmpty 9 := ⟨⟨rfl, (gT_in3 9 rfl), (gT_in0 4 rfl), by decide +kernel, by decide +kernel, Or.inl (gT_in3 6 rfl)⟩, (gT_in3 7 rfl), (gT_in3 8 rfl), T_AL, 3, rfl⟩
theorem cf_Teller_76 : gCv "ShipSets$Teller" 76 y_Teller_lastLostFrom Y_Teller_lastLostFrom 1 := ⟨⟨rfl, (gT_in3 12 rfl), (gT_in0 7 rfl), by decide +kernel, by decide +kernel, Or.inl (gT_in3 10 rfl)⟩, (gT_in3 11 rfl), (gT_ins 13 rfl), T_Teller, 4, rfl⟩
theorem cf_Teller_79 : gCv "ShipSets$Teller" 79 y_Blocks_lastAround Y_Blocks_lastAround 2 := ⟨⟨rfl, (gT_in3 18 rfl), (gT_in0 8 rfl), by decide +kernel, by decide +kernel, Or.inl (gT_in3 15 rfl)⟩, (gT_in3 16 rfl), (gT_in3 17 rfl), T_Blocks, 4, rfl⟩
theorem cf_Teller_88 : gCv "ShipSets$Teller" 88 y_Blocks_firstFrom Y_Blocks_firstFrom 2 := ⟨⟨rfl, (gT_in2 137 rfl), (gT_in0 8 rfl), by decide +kernel, by decide +kernel, Or.inl (gT_in3 13 rfl)⟩, (gT_in2 135 rfl), (gT_in2 136 rfl), T_Blocks, 4, rfl⟩
theorem cf_Law_9 : gCi "ShipSetsLaw" 9 y_S_init Y_S_init := ⟨⟨rfl, (gT_in0 24 rfl), (gT_in0 1 rfl), by decide +kernel, by decide +kernel, Or.inl (gT_in0 22 rfl)⟩, (gT_in0 23 rfl), rfl, rfl⟩
theorem cf_Law_12 : gCi "ShipSetsLaw" 12 y_M_init Y_M_init := ⟨⟨rfl, (gT_in3 60 rfl), (gT_in0 6 rfl), by decide +kernel, by decide +kernel, Or.inl (gT_in3 58 rfl)⟩, (gT_in3 59 rfl), rfl, rfl⟩
theorem cf_Law_13 : gCv "ShipSetsLaw" 13 y_S_teller Y_S_teller 0 := ⟨⟨rfl, (gT_in0 79 rfl), (gT_in0 1 rfl), by decide +kernel, by decide +kernel, Or.inl (gT_in0 76 rfl)⟩, (gT_in0 77 rfl), (gT_in0 78 rfl), T_S, 7, rfl⟩
theorem cf_Law_17 : gCv "ShipSetsLaw" 17 y_M_teller Y_M_teller 10 := ⟨⟨rfl, (gT_in3 120 rfl), (gT_in0 6 rfl), by decide +kernel, by decide +kernel, Or.inl (gT_in3 117 rfl)⟩, (gT_in3 118 rfl), (gT_in3 119 rfl), T_M, 27, rfl⟩
theorem cf_Law_20 : gCv "ShipSetsLaw" 20 y_S_tell Y_S_tell 0 := ⟨⟨rfl, (gT_in1 30 rfl), (gT_in0 1 rfl), by decide +kernel, by decide +kernel, Or.inl (gT_in1 27 rfl)⟩, (gT_in1 28 rfl), (gT_in1 29 rfl), T_S, 7, rfl⟩
theorem cf_Law_24 : gCv "ShipSetsLaw" 24 y_M_tell Y_M_tell 10 := ⟨⟨rfl, (gT_in3 124 rfl), (gT_in0 6 rfl), by decide +kernel, by decide +kernel, Or.inl (gT_in3 121 rfl)⟩, (gT_in3 122 rfl), (gT_in3 123 rfl), T_M, 27, rfl⟩
theorem cf_Law_25 : gCv "ShipSetsLaw" 25 y_S_set Y_S_set 0 := ⟨⟨rfl, (gT_in1 114 rfl), (gT_in0 1 rfl), by decide +kernel, by decide +kernel, Or.inl (gT_in1 111 rfl)⟩, (gT_in1 112 rfl), (gT_in1 113 rfl), T_S, 7, rfl⟩
theorem cf_Law_29 : gCv "ShipSetsLaw" 29 y_M_set Y_M_set 10 := ⟨⟨rfl, (gT_in3 147 rfl), (gT_in0 6 rfl), by decide +kernel, by decide +kernel, Or.inl (gT_in3 144 rfl)⟩, (gT_in3 145 rfl), (gT_in3 146 rfl), T_M, 27, rfl⟩
theorem cf_Law_30 : gCv "ShipSetsLaw" 30 y_S_join Y_S_join 0 := ⟨⟨rfl, (gT_in1 138 rfl), (gT_in0 1 rfl), by decide +kernel, by decide +kernel, Or.inl (gT_in1 135 rfl)⟩, (gT_in1 136 rfl), (gT_in1 137 rfl), T_S, 7, rfl⟩
theorem cf_Law_34 : gCv "ShipSetsLaw" 34 y_M_join Y_M_join 10 := ⟨⟨rfl, (gT_in4 21 rfl), (gT_in0 6 rfl), by decide +kernel, by decide +kernel, Or.inl (gT_in4 18 rfl)⟩, (gT_in4 19 rfl), (gT_in4 20 rfl), T_M, 27, rfl⟩
theorem cf_Law_35 : gCv "ShipSetsLaw" 35 y_S_equal Y_S_equal 0 := ⟨⟨rfl, (gT_in2 57 rfl), (gT_in0 1 rfl), by decide +kernel, by decide +kernel, Or.inl (gT_in2 54 rfl)⟩, (gT_in2 55 rfl), (gT_in2 56 rfl), T_S, 7, rfl⟩
theorem cf_Law_39 : gCv "ShipSetsLaw" 39 y_M_equal Y_M_equal 10 := ⟨⟨rfl, (gT_in4 29 rfl), (gT_in0 6 rfl), by decide +kernel, by decide +kernel, Or.inl (gT_in4 26 rfl)⟩, (gT_in4 27 rfl), (gT_in4 28 rfl), T_M, 27, rfl⟩
theorem cf_Law_40 : gCv "ShipSetsLaw" 40 y_S_known Y_S_known 0 := ⟨⟨rfl, (gT_in2 65 rfl), (gT_in0 1 rfl), by decide +kernel, by decide +kernel, Or.inl (gT_in2 62 rfl)⟩, (gT_in2 63 rfl), (gT_in2 64 rfl), T_S, 7, rfl⟩
theorem cf_Law_44 : gCv "ShipSetsLaw" 44 y_M_known Y_M_known 10 := ⟨⟨rfl, (gT_in4 1 rfl), (gT_in0 6 rfl), by decide +kernel, by decide +kernel, Or.inl (gT_in3 148 rfl)⟩, (gT_in3 149 rfl), (gT_in4 0 rfl), T_M, 27, rfl⟩
theorem cf_Law_45 : gCv "ShipSetsLaw" 45 y_S_conflict Y_S_conflict 0 := ⟨⟨rfl, (gT_in2 69 rfl), (gT_in0 1 rfl), by decide +kernel, by decide +kernel, Or.inl (gT_in2 66 rfl)⟩, (gT_in2 67 rfl), (gT_in2 68 rfl), T_S, 7, rfl⟩
theorem cf_Law_49 : gCv "ShipSetsLaw" 49 y_M_conflict Y_M_conflict 10 := ⟨⟨rfl, (gT_in4 33 rfl), (gT_in0 6 rfl), by decide +kernel, by decide +kernel, Or.inl (gT_in4 30 rfl)⟩, (gT_in4 31 rfl), (gT_in4 32 rfl), T_M, 27, rfl⟩
theorem cf_Law_50 : gCv "ShipSetsLaw" 50 y_S_settle Y_S_settle 0 := ⟨⟨rfl, (gT_in2 76 rfl), (gT_in0 1 rfl), by decide +kernel, by decide +kernel, Or.inl (gT_in2 73 rfl)⟩, (gT_in2 74 rfl), (gT_in2 75 rfl), T_S, 7, rfl⟩
theorem cf_Law_54 : gCv "ShipSetsLaw" 54 y_M_settle Y_M_settle 10 := ⟨⟨rfl, (gT_in4 37 rfl), (gT_in0 6 rfl), by decide +kernel, by decide +kernel, Or.inl (gT_in4 34 rfl)⟩, (gT_in4 35 rfl), (gT_in4 36 rfl), T_M, 27, rfl⟩
theorem cf_Law_55 : gCv "ShipSetsLaw" 55 y_S_batch Y_S_batch 0 := ⟨⟨rfl, (gT_in2 105 rfl), (gT_in0 1 rfl), by decide +kernel, by decide +kernel, Or.inl (gT_in2 102 rfl)⟩, (gT_in2 103 rfl), (gT_in2 104 rfl), T_S, 7, rfl⟩
theorem cf_Law_59 : gCv "ShipSetsLaw" 59 y_M_batch Y_M_batch 10 := ⟨⟨rfl, (gT_in4 41 rfl), (gT_in0 6 rfl), by decide +kernel, by decide +kernel, Or.inl (gT_in4 38 rfl)⟩, (gT_in4 39 rfl), (gT_in4 40 rfl), T_M, 27, rfl⟩
theorem cf_Law_60 : gCv "ShipSetsLaw" 60 y_S_endBatch Y_S_endBatch 0 := ⟨⟨rfl, (gT_in2 114 rfl), (gT_in0 1 rfl), by decide +kernel, by decide +kernel, Or.inl (gT_in2 111 rfl)⟩, (gT_in2 112 rfl), (gT_in2 113 rfl), T_S, 7, rfl⟩
theorem cf_Law_63 : gCv "ShipSetsLaw" 63 y_M_endBatch Y_M_endBatch 10 := ⟨⟨rfl, (gT_in4 45 rfl), (gT_in0 6 rfl), by decide +kernel, by decide +kernel, Or.inl (gT_in4 42 rfl)⟩, (gT_in4 43 rfl), (gT_in4 44 rfl), T_M, 27, rfl⟩
theorem cf_Law_64 : gCv "ShipSetsLaw" 64 y_S_right Y_S_right 0 := ⟨⟨rfl, (gT_in2 118 rfl), (gT_in0 1 rfl), by decide +kernel, by decide +kernel, Or.inl (gT_in2 115 rfl)⟩, (gT_in2 116 rfl), (gT_in2 117 rfl), T_S, 7, rfl⟩
theorem cf_Law_68 : gCv "ShipSetsLaw" 68 y_M_right Y_M_right 10 := ⟨⟨rfl, (gT_in4 49 rfl), (gT_in0 6 rfl), by decide +kernel, by decide +kernel, Or.inl (gT_in4 46 rfl)⟩, (gT_in4 47 rfl), (gT_in4 48 rfl), T_M, 27, rfl⟩
theorem cf_Law_69 : gCv "ShipSetsLaw" 69 y_S_seen Y_S_seen 0 := ⟨⟨rfl, (gT_in2 125 rfl), (gT_in0 1 rfl), by decide +kernel, by decide +kernel, Or.inl (gT_in2 122 rfl)⟩, (gT_in2 123 rfl), (gT_in2 124 rfl), T_S, 7, rfl⟩
theorem cf_Law_72 : gCv "ShipSetsLaw" 72 y_M_seen Y_M_seen 10 := ⟨⟨rfl, (gT_in4 54 rfl), (gT_in0 6 rfl), by decide +kernel, by decide +kernel, Or.inl (gT_in4 51 rfl)⟩, (gT_in4 52 rfl), (gT_in4 53 rfl), T_M, 27, rfl⟩
theorem cf_Law_73 : gCv "ShipSetsLaw" 73 y_S_block Y_S_block 0 := ⟨⟨rfl, (gT_in2 129 rfl), (gT_in0 1 rfl), by decide +kernel, by decide +kernel, Or.inl (gT_in2 126 rfl)⟩, (gT_in2 127 rfl), (gT_in2 128 rfl), T_S, 7, rfl⟩
theorem cf_Law_77 : gCv "ShipSetsLaw" 77 y_M_block Y_M_block 10 := ⟨⟨rfl, (gT_in4 58 rfl), (gT_in0 6 rfl), by decide +kernel, by decide +kernel, Or.inl (gT_in4 55 rfl)⟩, (gT_in4 56 rfl), (gT_in4 57 rfl), T_M, 27, rfl⟩
theorem cf_Law_78 : gCv "ShipSetsLaw" 78 y_S_number Y_S_number 0 := ⟨⟨rfl, (gT_in2 142 rfl), (gT_in0 1 rfl), by decide +kernel, by decide +kernel, Or.inl (gT_in2 139 rfl)⟩, (gT_in2 140 rfl), (gT_in2 141 rfl), T_S, 7, rfl⟩
theorem cf_Law_81 : gCv "ShipSetsLaw" 81 y_M_number Y_M_number 10 := ⟨⟨rfl, (gT_in4 65 rfl), (gT_in0 6 rfl), by decide +kernel, by decide +kernel, Or.inl (gT_in4 62 rfl)⟩, (gT_in4 63 rfl), (gT_in4 64 rfl), T_M, 27, rfl⟩
theorem cf_Law_82 : gCv "ShipSetsLaw" 82 y_S_lost Y_S_lost 0 := ⟨⟨rfl, (gT_in3 1 rfl), (gT_in0 1 rfl), by decide +kernel, by decide +kernel, Or.inl (gT_in2 148 rfl)⟩, (gT_in2 149 rfl), (gT_in3 0 rfl), T_S, 7, rfl⟩
theorem cf_Law_85 : gCv "ShipSetsLaw" 85 y_M_lost Y_M_lost 10 := ⟨⟨rfl, (gT_in4 69 rfl), (gT_in0 6 rfl), by decide +kernel, by decide +kernel, Or.inl (gT_in4 66 rfl)⟩, (gT_in4 67 rfl), (gT_in4 68 rfl), T_M, 27, rfl⟩
theorem cf_Law_86 : gCv "ShipSetsLaw" 86 y_S_close Y_S_close 0 := ⟨⟨rfl, (gT_in3 23 rfl), (gT_in0 1 rfl), by decide +kernel, by decide +kernel, Or.inl (gT_in3 20 rfl)⟩, (gT_in3 21 rfl), (gT_in3 22 rfl), T_S, 7, rfl⟩
theorem cf_Law_89 : gCv "ShipSetsLaw" 89 y_M_close Y_M_close 10 := ⟨⟨rfl, (gT_in3 143 rfl), (gT_in0 6 rfl), by decide +kernel, by decide +kernel, Or.inl (gT_in3 140 rfl)⟩, (gT_in3 141 rfl), (gT_in3 142 rfl), T_M, 27, rfl⟩
theorem cf_Law_90 : gCv "ShipSetsLaw" 90 y_S_mark Y_S_mark 0 := ⟨⟨rfl, (gT_in3 27 rfl), (gT_in0 1 rfl), by decide +kernel, by decide +kernel, Or.inl (gT_in3 24 rfl)⟩, (gT_in3 25 rfl), (gT_in3 26 rfl), T_S, 7, rfl⟩
theorem cf_Law_94 : gCv "ShipSetsLaw" 94 y_M_mark Y_M_mark 10 := ⟨⟨rfl, (gT_in4 73 rfl), (gT_in0 6 rfl), by decide +kernel, by decide +kernel, Or.inl (gT_in4 70 rfl)⟩, (gT_in4 71 rfl), (gT_in4 72 rfl), T_M, 27, rfl⟩
theorem cf_Law_95 : gCv "ShipSetsLaw" 95 y_S_corrected Y_S_corrected 0 := ⟨⟨rfl, (gT_in3 38 rfl), (gT_in0 1 rfl), by decide +kernel, by decide +kernel, Or.inl (gT_in3 35 rfl)⟩, (gT_in3 36 rfl), (gT_in3 37 rfl), T_S, 7, rfl⟩
theorem cf_Law_99 : gCv "ShipSetsLaw" 99 y_M_corrected Y_M_corrected 10 := ⟨⟨rfl, (gT_in4 77 rfl), (gT_in0 6 rfl), by decide +kernel, by decide +kernel, Or.inl (gT_in4 74 rfl)⟩, (gT_in4 75 rfl), (gT_in4 76 rfl), T_M, 27, rfl⟩
theorem cf_M_92 : gCv "ShipSetsModel" 92 y_M_isTeller Y_M_isTeller 10 := ⟨⟨rfl, (gT_in3 127 rfl), (gT_in0 6 rfl), by decide +kernel, by decide +kernel, Or.inl (gT_in3 125 rfl)⟩, (gT_in3 126 rfl), (gT_ins 15 rfl), T_M, 27, rfl⟩
theorem cf_M_98 : gCs "ShipSetsModel" 98 y_M_isIn Y_M_isIn := ⟨⟨rfl, (gT_in3 131 rfl), (gT_in0 6 rfl), by decide +kernel, by decide +kernel, Or.inl (gT_in3 129 rfl)⟩, (gT_in3 130 rfl)⟩
theorem cf_M_112 : gCv "ShipSetsModel" 112 y_M_told Y_M_told 10 := ⟨⟨rfl, (gT_in3 139 rfl), (gT_in0 6 rfl), by decide +kernel, by decide +kernel, Or.inl (gT_in3 137 rfl)⟩, (gT_in3 138 rfl), (gT_ins 16 rfl), T_M, 27, rfl⟩
theorem cf_M_116 : gCv "ShipSetsModel" 116 y_M_isOf Y_M_isOf 10 := ⟨⟨rfl, (gT_in4 13 rfl), (gT_in0 6 rfl), by decide +kernel, by decide +kernel, Or.inl (gT_in4 11 rfl)⟩, (gT_in4 12 rfl), (gT_ins 20 rfl), T_M, 27, rfl⟩
theorem cf_M_120 : gCv "ShipSetsModel" 120 y_M_findCurrent Y_M_findCurrent 10 := ⟨⟨rfl, (gT_in4 10 rfl), (gT_in0 6 rfl), by decide +kernel, by decide +kernel, Or.inl (gT_in4 8 rfl)⟩, (gT_in4 9 rfl), (gT_ins 19 rfl), T_M, 27, rfl⟩
theorem cf_M_129 : gCv "ShipSetsModel" 129 y_M_counts Y_M_counts 10 := ⟨⟨rfl, (gT_in4 17 rfl), (gT_in0 6 rfl), by decide +kernel, by decide +kernel, Or.inl (gT_in4 15 rfl)⟩, (gT_in4 16 rfl), (gT_ins 21 rfl), T_M, 27, rfl⟩
theorem cf_M_133 : gCv "ShipSetsModel" 133 y_M_isSet Y_M_isSet 10 := ⟨⟨rfl, (gT_in4 4 rfl), (gT_in0 6 rfl), by decide +kernel, by decide +kernel, Or.inl (gT_in4 2 rfl)⟩, (gT_in4 3 rfl), (gT_ins 17 rfl), T_M, 27, rfl⟩
theorem cf_M_136 : gCv "ShipSetsModel" 136 y_M_valueOf Y_M_valueOf 10 := ⟨⟨rfl, (gT_in4 7 rfl), (gT_in0 6 rfl), by decide +kernel, by decide +kernel, Or.inl (gT_in4 5 rfl)⟩, (gT_in4 6 rfl), (gT_ins 18 rfl), T_M, 27, rfl⟩
theorem cf_M_141 : gCv "ShipSetsModel" 141 y_M_isConflict Y_M_isConflict 10 := ⟨⟨rfl, (gT_in4 24 rfl), (gT_in0 6 rfl), by decide +kernel, by decide +kernel, Or.inl (gT_in4 22 rfl)⟩, (gT_in4 23 rfl), (gT_ins 22 rfl), T_M, 27, rfl⟩
theorem cf_M_147 : gCv "ShipSetsModel" 147 y_M_inBlock Y_M_inBlock 10 := ⟨⟨rfl, (gT_in4 61 rfl), (gT_in0 6 rfl), by decide +kernel, by decide +kernel, Or.inl (gT_in4 59 rfl)⟩, (gT_in4 60 rfl), (gT_ins 23 rfl), T_M, 27, rfl⟩
theorem cf_AbstractList_1 : gCi "java/util/AbstractList" 1 y_AbstractCollection_init Y_AbstractCollection_init := ⟨⟨rfl, (gT_in0 38 rfl), (gT_in0 2 rfl), by decide +kernel, by decide +kernel, Or.inl (gT_in0 36 rfl)⟩, (gT_in0 37 rfl), rfl, rfl⟩
theorem cf_AL_1 : gCi "java/util/ArrayList" 1 y_AbstractList_init Y_AbstractList_init := ⟨⟨rfl, (gT_in0 35 rfl), (gT_in0 3 rfl), by decide +kernel, by decide +kernel, Or.inl (gT_in0 33 rfl)⟩, (gT_in0 34 rfl), rfl, rfl⟩
theorem cf_AL_66 : gCs "java/util/ArrayList" 66 y_Arrays_copyOf Y_Arrays_copyOf := ⟨⟨rfl, (gT_in0 148 rfl), (gT_in0 12 rfl), by decide +kernel, by decide +kernel, Or.inl (gT_in0 146 rfl)⟩, (gT_in0 147 rfl)⟩
theorem cf_AL_69 : gCv "java/util/ArrayList" 69 y_AL_grow2 Y_AL_grow2 9 := ⟨⟨rfl, (gT_in0 135 rfl), (gT_in0 4 rfl), by decide +kernel, by decide +kernel, Or.inl (gT_in0 133 rfl)⟩, (gT_in0 134 rfl), (gT_ins 2 rfl), T_AL, 3, rfl⟩
theorem cf_AL_73 : gCs "java/util/ArrayList" 73 y_ArraysSupport_newLength Y_ArraysSupport_newLength := ⟨⟨rfl, (gT_in0 138 rfl), (gT_in0 10 rfl), by decide +kernel, by decide +kernel, Or.inl (gT_in0 136 rfl)⟩, (gT_in0 137 rfl)⟩
theorem cf_AL_118 : gCs "java/util/ArrayList" 118 y_Objects_checkIndex Y_Objects_checkIndex := ⟨⟨rfl, (gT_in1 40 rfl), (gT_in0 14 rfl), by decide +kernel, by decide +kernel, Or.inl (gT_in1 38 rfl)⟩, (gT_in1 39 rfl)⟩
theorem cf_AL_123 : gCv "java/util/ArrayList" 123 y_AL_elementData Y_AL_elementData 9 := ⟨⟨rfl, (gT_in1 47 rfl), (gT_in0 4 rfl), by decide +kernel, by decide +kernel, Or.inl (gT_in1 44 rfl)⟩, (gT_in1 45 rfl), (gT_in1 46 rfl), T_AL, 3, rfl⟩
theorem cf_AL_129 : gCv "java/util/ArrayList" 129 y_AL_grow Y_AL_grow 9 := ⟨⟨rfl, (gT_in0 132 rfl), (gT_in0 4 rfl), by decide +kernel, by decide +kernel, Or.inl (gT_in0 130 rfl)⟩, (gT_in0 131 rfl), (gT_ins 1 rfl), T_AL, 3, rfl⟩
theorem cf_AL_131 : gCv "java/util/ArrayList" 131 y_AL_add2 Y_AL_add2 9 := ⟨⟨rfl, (gT_in0 129 rfl), (gT_in0 4 rfl), by decide +kernel, by decide +kernel, Or.inl (gT_in0 127 rfl)⟩, (gT_in0 128 rfl), (gT_ins 0 rfl), T_AL, 3, rfl⟩
theorem cf_AL_135 : gCv "java/util/ArrayList" 135 y_AL_rangeCheckForAdd Y_AL_rangeCheckForAdd 9 := ⟨⟨rfl, (gT_in1 109 rfl), (gT_in0 4 rfl), by decide +kernel, by decide +kernel, Or.inl (gT_in1 107 rfl)⟩, (gT_in1 108 rfl), (gT_ins 5 rfl), T_AL, 3, rfl⟩
theorem cf_Arrays_300 : gCs "java/util/Arrays" 300 y_Arrays_copyOf2 Y_Arrays_copyOf2 := ⟨⟨rfl, (gT_in1 16 rfl), (gT_in0 12 rfl), by decide +kernel, by decide +kernel, Or.inl (gT_in1 14 rfl)⟩, (gT_in1 15 rfl)⟩
theorem cf_Objects_105 : gCs "java/util/Objects" 105 y_Preconditions_checkIndex Y_Preconditions_checkIndex := ⟨⟨rfl, (gT_in1 43 rfl), (gT_in0 15 rfl), by decide +kernel, by decide +kernel, Or.inl (gT_in1 41 rfl)⟩, (gT_in1 42 rfl)⟩
theorem cf_ArraysSupport_201 : gCs "jdk/internal/util/ArraysSupport" 201 y_ArraysSupport_hugeLength Y_ArraysSupport_hugeLength := ⟨⟨rfl, (gT_in0 145 rfl), (gT_in0 10 rfl), by decide +kernel, by decide +kernel, Or.inl (gT_in0 143 rfl)⟩, (gT_in0 144 rfl)⟩
theorem ac_Holding_34 : gArr "ShipSets$Holding" 34 := ⟨(gT_in2 110 rfl), (gT_in1 24 rfl), (gT_in1 23 rfl), (gT_in0 13 rfl)⟩
theorem ac_AL_112 : gArr "java/util/ArrayList" 112 := ⟨(gT_in1 110 rfl), (gT_in1 24 rfl), (gT_in1 23 rfl), (gT_in0 13 rfl)⟩
theorem ac_Arrays_150 : gArr "java/util/Arrays" 150 := ⟨(gT_in1 22 rfl), (gT_in1 24 rfl), (gT_in1 23 rfl), (gT_in0 13 rfl)⟩
theorem cl_Arrays_316 : gCln "java/util/Arrays" 316 := ⟨(gT_in2 90 rfl), (gT_in2 91 rfl), (gT_in2 92 rfl), (gT_in2 93 rfl), (gT_in2 94 rfl), by decide +kernel⟩
theorem gInto_T : gInto [7] "ShipSets$Telling" := by
  intro ci hci
  rcases List.mem_singleton.mp hci with rfl
  exact ⟨_, _, _, rfl, Or.inl rfl⟩
theorem gInto_O : gInto gObs "java/lang/Object" := by
  intro ci hci
  have h : ci = 1 ∨ ci = 4 ∨ ci = 6 ∨ ci = 7 := by simpa [gObs] using hci
  rcases h with rfl | rfl | rfl | rfl <;> exact ⟨_, _, _, rfl, Or.inr (by decide +kernel)⟩
