def RX0 : String := "StablepairBureau$Gifts"
def TX0 : u_T := fun k => match k with
  | 0 => ("StablepairBureau$Gifts", "can", "[Z", true)
  | _ => ("StablepairBureau$Gifts", "best", "[I", true)
def tyX0 : Nat → FieldType := fun k => match k with
  | 0 => .array .boolean
  | _ => .array .int
abbrev wsX00 : List Cond := u_ws RX0 TX0 2
theorem nmX0 : ∀ a, a < 2 → ∀ b, b < 2 → a ≠ b → (TX0 a).2.1 ≠ (TX0 b).2.1 := by decide +kernel
theorem tyX0_ok : ∀ k, k < 2 → parseFieldDescriptor (TX0 k).2.2.1 = some (tyX0 k) := by decide +kernel
abbrev cX0_init : ByteArray := prog_2_method_1_code
def yX0_init : MethodName := ⟨RX0, "<init>", "()V"⟩
abbrev cX0_has : ByteArray := prog_2_method_2_code
def yX0_has : MethodName := ⟨RX0, "has", "(I)Z"⟩
abbrev cX0_canGive : ByteArray := prog_2_method_3_code
def yX0_canGive : MethodName := ⟨RX0, "canGive", "(II)Z"⟩
abbrev cX0_allow : ByteArray := prog_2_method_4_code
def yX0_allow : MethodName := ⟨RX0, "allow", "(IIZ)V"⟩
abbrev cX0_mostHelped : ByteArray := prog_2_method_5_code
def yX0_mostHelped : MethodName := ⟨RX0, "mostHelped", "(I)I"⟩
abbrev cX0_bestOf : ByteArray := prog_2_method_6_code
def yX0_bestOf : MethodName := ⟨RX0, "bestOf", "(I)I"⟩
abbrev cX0_bestWith : ByteArray := prog_2_method_7_code
def yX0_bestWith : MethodName := ⟨RX0, "bestWith", "(III)I"⟩
abbrev cX0_bestByThree : ByteArray := prog_2_method_8_code
def yX0_bestByThree : MethodName := ⟨RX0, "bestByThree", "(III)I"⟩
abbrev cX0_addTo : ByteArray := prog_2_method_9_code
def yX0_addTo : MethodName := ⟨RX0, "addTo", "(J)J"⟩
def RX1 : String := "StablepairBureau$Lattice"
def TX1 : u_T := fun k => match k with
  | 0 => ("StablepairBureau$Lattice", "count", "I", false)
  | 1 => ("StablepairBureau$Lattice", "codes", "[J", true)
  | _ => ("StablepairBureau$Lattice", "visited", "LStablepairBureau$Pairing;", true)
def tyX1 : Nat → FieldType := fun k => match k with
  | 0 => .int
  | 1 => .array .long
  | _ => .object "StablepairBureau$Pairing"
abbrev wsX10 : List Cond := u_ws RX1 TX1 3
theorem nmX1 : ∀ a, a < 3 → ∀ b, b < 3 → a ≠ b → (TX1 a).2.1 ≠ (TX1 b).2.1 := by decide +kernel
theorem tyX1_ok : ∀ k, k < 3 → parseFieldDescriptor (TX1 k).2.2.1 = some (tyX1 k) := by decide +kernel
abbrev cX1_init : ByteArray := prog_3_method_1_code
def yX1_init : MethodName := ⟨RX1, "<init>", "()V"⟩
abbrev cX1_codeAt : ByteArray := prog_3_method_2_code
def yX1_codeAt : MethodName := ⟨RX1, "codeAt", "(I)J"⟩
abbrev cX1_gather : ByteArray := prog_3_method_3_code
def yX1_gather : MethodName := ⟨RX1, "gather", "(LStablepairBureau$Market;LStablepairBureau$Pairing;LStablepairBureau$Rotations;)V"⟩
abbrev cX1_note : ByteArray := prog_3_method_4_code
def yX1_note : MethodName := ⟨RX1, "note", "(J)V"⟩
abbrev cX1_sort : ByteArray := prog_3_method_5_code
def yX1_sort : MethodName := ⟨RX1, "sort", "()V"⟩
def RX2 : String := "StablepairBureau$Lists"
def TX2 : u_T := fun k => match k with
  | 0 => ("StablepairBureau$Lists", "count", "I", false)
  | 1 => ("StablepairBureau$Lists", "sizes", "[I", true)
  | 2 => ("StablepairBureau$Lists", "wished", "[I", true)
  | _ => ("StablepairBureau$Lists", "spots", "[I", true)
def tyX2 : Nat → FieldType := fun k => match k with
  | 0 => .int
  | 1 => .array .int
  | 2 => .array .int
  | _ => .array .int
abbrev wsX20 : List Cond := u_ws RX2 TX2 4
theorem nmX2 : ∀ a, a < 4 → ∀ b, b < 4 → a ≠ b → (TX2 a).2.1 ≠ (TX2 b).2.1 := by decide +kernel
theorem tyX2_ok : ∀ k, k < 4 → parseFieldDescriptor (TX2 k).2.2.1 = some (tyX2 k) := by decide +kernel
abbrev cX2_init : ByteArray := prog_4_method_1_code
def yX2_init : MethodName := ⟨RX2, "<init>", "()V"⟩
abbrev cX2_has : ByteArray := prog_4_method_2_code
def yX2_has : MethodName := ⟨RX2, "has", "(I)Z"⟩
abbrev cX2_grow : ByteArray := prog_4_method_3_code
def yX2_grow : MethodName := ⟨RX2, "grow", "()V"⟩
abbrev cX2_sizeOf : ByteArray := prog_4_method_4_code
def yX2_sizeOf : MethodName := ⟨RX2, "sizeOf", "(I)I"⟩
abbrev cX2_wishAt : ByteArray := prog_4_method_5_code
def yX2_wishAt : MethodName := ⟨RX2, "wishAt", "(II)I"⟩
abbrev cX2_placeOf : ByteArray := prog_4_method_6_code
def yX2_placeOf : MethodName := ⟨RX2, "placeOf", "(II)I"⟩
abbrev cX2_shorten : ByteArray := prog_4_method_7_code
def yX2_shorten : MethodName := ⟨RX2, "shorten", "(II)V"⟩
abbrev cX2_replace : ByteArray := prog_4_method_8_code
def yX2_replace : MethodName := ⟨RX2, "replace", "(I[II)V"⟩
abbrev cX2_append : ByteArray := prog_4_method_9_code
def yX2_append : MethodName := ⟨RX2, "append", "(II)V"⟩
abbrev cX2_copyFrom : ByteArray := prog_4_method_10_code
def yX2_copyFrom : MethodName := ⟨RX2, "copyFrom", "(LStablepairBureau$Lists;)V"⟩
abbrev cX2_addTo : ByteArray := prog_4_method_11_code
def yX2_addTo : MethodName := ⟨RX2, "addTo", "(J)J"⟩
def RX3 : String := "StablepairBureau$Market"
def TX3 : u_T := fun k => match k with
  | 0 => ("StablepairBureau$Market", "persons", "LStablepairBureau$Lists;", true)
  | 1 => ("StablepairBureau$Market", "houses", "LStablepairBureau$Lists;", true)
  | _ => ("StablepairBureau$Market", "places", "[I", true)
def tyX3 : Nat → FieldType := fun k => match k with
  | 0 => .object "StablepairBureau$Lists"
  | 1 => .object "StablepairBureau$Lists"
  | _ => .array .int
abbrev wsX30 : List Cond := u_ws RX3 TX3 3
theorem nmX3 : ∀ a, a < 3 → ∀ b, b < 3 → a ≠ b → (TX3 a).2.1 ≠ (TX3 b).2.1 := by decide +kernel
theorem tyX3_ok : ∀ k, k < 3 → parseFieldDescriptor (TX3 k).2.2.1 = some (tyX3 k) := by decide +kernel
abbrev cX3_init : ByteArray := prog_5_method_1_code
def yX3_init : MethodName := ⟨RX3, "<init>", "()V"⟩
abbrev cX3_placesOf : ByteArray := prog_5_method_2_code
def yX3_placesOf : MethodName := ⟨RX3, "placesOf", "(I)I"⟩
abbrev cX3_setPlaces : ByteArray := prog_5_method_3_code
def yX3_setPlaces : MethodName := ⟨RX3, "setPlaces", "(II)V"⟩
abbrev cX3_areMutual : ByteArray := prog_5_method_4_code
def yX3_areMutual : MethodName := ⟨RX3, "areMutual", "(II)Z"⟩
abbrev cX3_copyFrom : ByteArray := prog_5_method_5_code
def yX3_copyFrom : MethodName := ⟨RX3, "copyFrom", "(LStablepairBureau$Market;)V"⟩
def RX4 : String := "StablepairBureau$Offers"
def TX4 : u_T := fun k => match k with
  | 0 => ("StablepairBureau$Offers", "begun", "Z", false)
  | 1 => ("StablepairBureau$Offers", "byHouses", "Z", false)
  | 2 => ("StablepairBureau$Offers", "made", "I", false)
  | 3 => ("StablepairBureau$Offers", "next", "[I", true)
  | 4 => ("StablepairBureau$Offers", "asked", "[I", true)
  | _ => ("StablepairBureau$Offers", "outcomes", "[C", true)
def tyX4 : Nat → FieldType := fun k => match k with
  | 0 => .boolean
  | 1 => .boolean
  | 2 => .int
  | 3 => .array .int
  | 4 => .array .int
  | _ => .array .char
abbrev wsX40 : List Cond := u_ws RX4 TX4 6
theorem nmX4 : ∀ a, a < 6 → ∀ b, b < 6 → a ≠ b → (TX4 a).2.1 ≠ (TX4 b).2.1 := by decide +kernel
theorem tyX4_ok : ∀ k, k < 6 → parseFieldDescriptor (TX4 k).2.2.1 = some (tyX4 k) := by decide +kernel
abbrev cX4_init : ByteArray := prog_6_method_1_code
def yX4_init : MethodName := ⟨RX4, "<init>", "()V"⟩
abbrev cX4_start : ByteArray := prog_6_method_2_code
def yX4_start : MethodName := ⟨RX4, "start", "(C)V"⟩
abbrev cX4_end : ByteArray := prog_6_method_3_code
def yX4_end : MethodName := ⟨RX4, "end", "()V"⟩
abbrev cX4_offerers : ByteArray := prog_6_method_4_code
def yX4_offerers : MethodName := ⟨RX4, "offerers", "(LStablepairBureau$Market;)LStablepairBureau$Lists;"⟩
abbrev cX4_askedAt : ByteArray := prog_6_method_5_code
def yX4_askedAt : MethodName := ⟨RX4, "askedAt", "(I)I"⟩
abbrev cX4_outcomeAt : ByteArray := prog_6_method_6_code
def yX4_outcomeAt : MethodName := ⟨RX4, "outcomeAt", "(I)C"⟩
abbrev cX4_canMake : ByteArray := prog_6_method_7_code
def yX4_canMake : MethodName := ⟨RX4, "canMake", "(LStablepairBureau$Market;LStablepairBureau$Pairing;I)Z"⟩
abbrev cX4_countAble : ByteArray := prog_6_method_8_code
def yX4_countAble : MethodName := ⟨RX4, "countAble", "(LStablepairBureau$Market;LStablepairBureau$Pairing;)I"⟩
abbrev cX4_chooseAble : ByteArray := prog_6_method_9_code
def yX4_chooseAble : MethodName := ⟨RX4, "chooseAble", "(LStablepairBureau$Market;LStablepairBureau$Pairing;Z)I"⟩
abbrev cX4_makeAll : ByteArray := prog_6_method_10_code
def yX4_makeAll : MethodName := ⟨RX4, "makeAll", "(LStablepairBureau$Market;LStablepairBureau$Pairing;CZ)V"⟩
abbrev cX4_make : ByteArray := prog_6_method_11_code
def yX4_make : MethodName := ⟨RX4, "make", "(LStablepairBureau$Market;LStablepairBureau$Pairing;I)C"⟩
abbrev cX4_askHouse : ByteArray := prog_6_method_12_code
def yX4_askHouse : MethodName := ⟨RX4, "askHouse", "(LStablepairBureau$Market;LStablepairBureau$Pairing;II)C"⟩
abbrev cX4_askPerson : ByteArray := prog_6_method_13_code
def yX4_askPerson : MethodName := ⟨RX4, "askPerson", "(LStablepairBureau$Market;LStablepairBureau$Pairing;II)C"⟩
def RX5 : String := "StablepairBureau$Pairing"
def TX5 : u_T := fun k => match k with
  | 0 => ("StablepairBureau$Pairing", "homes", "[I", true)
  | _ => ("StablepairBureau$Pairing", "loads", "[I", true)
def tyX5 : Nat → FieldType := fun k => match k with
  | 0 => .array .int
  | _ => .array .int
abbrev wsX50 : List Cond := u_ws RX5 TX5 2
theorem nmX5 : ∀ a, a < 2 → ∀ b, b < 2 → a ≠ b → (TX5 a).2.1 ≠ (TX5 b).2.1 := by decide +kernel
theorem tyX5_ok : ∀ k, k < 2 → parseFieldDescriptor (TX5 k).2.2.1 = some (tyX5 k) := by decide +kernel
abbrev cX5_init : ByteArray := prog_7_method_1_code
def yX5_init : MethodName := ⟨RX5, "<init>", "()V"⟩
abbrev cX5_clear : ByteArray := prog_7_method_2_code
def yX5_clear : MethodName := ⟨RX5, "clear", "()V"⟩
abbrev cX5_copyFrom : ByteArray := prog_7_method_3_code
def yX5_copyFrom : MethodName := ⟨RX5, "copyFrom", "(LStablepairBureau$Pairing;)V"⟩
abbrev cX5_homeOf : ByteArray := prog_7_method_4_code
def yX5_homeOf : MethodName := ⟨RX5, "homeOf", "(I)I"⟩
abbrev cX5_loadOf : ByteArray := prog_7_method_5_code
def yX5_loadOf : MethodName := ⟨RX5, "loadOf", "(I)I"⟩
abbrev cX5_isFull : ByteArray := prog_7_method_6_code
def yX5_isFull : MethodName := ⟨RX5, "isFull", "(LStablepairBureau$Market;I)Z"⟩
abbrev cX5_leave : ByteArray := prog_7_method_7_code
def yX5_leave : MethodName := ⟨RX5, "leave", "(I)I"⟩
abbrev cX5_settle : ByteArray := prog_7_method_8_code
def yX5_settle : MethodName := ⟨RX5, "settle", "(II)V"⟩
abbrev cX5_countPaired : ByteArray := prog_7_method_9_code
def yX5_countPaired : MethodName := ⟨RX5, "countPaired", "()I"⟩
abbrev cX5_countMoved : ByteArray := prog_7_method_10_code
def yX5_countMoved : MethodName := ⟨RX5, "countMoved", "(LStablepairBureau$Pairing;)I"⟩
abbrev cX5_holdsSame : ByteArray := prog_7_method_11_code
def yX5_holdsSame : MethodName := ⟨RX5, "holdsSame", "(LStablepairBureau$Pairing;I)Z"⟩
abbrev cX5_tenant : ByteArray := prog_7_method_12_code
def yX5_tenant : MethodName := ⟨RX5, "tenant", "(LStablepairBureau$Market;II)I"⟩
abbrev cX5_barOf : ByteArray := prog_7_method_13_code
def yX5_barOf : MethodName := ⟨RX5, "barOf", "(LStablepairBureau$Market;I)I"⟩
abbrev cX5_isBlock : ByteArray := prog_7_method_14_code
def yX5_isBlock : MethodName := ⟨RX5, "isBlock", "(LStablepairBureau$Market;II)Z"⟩
abbrev cX5_countBlocks : ByteArray := prog_7_method_15_code
def yX5_countBlocks : MethodName := ⟨RX5, "countBlocks", "(LStablepairBureau$Market;)I"⟩
abbrev cX5_blockNumber : ByteArray := prog_7_method_16_code
def yX5_blockNumber : MethodName := ⟨RX5, "blockNumber", "(LStablepairBureau$Market;I)I"⟩
abbrev cX5_isCalm : ByteArray := prog_7_method_17_code
def yX5_isCalm : MethodName := ⟨RX5, "isCalm", "(LStablepairBureau$Market;)Z"⟩
abbrev cX5_personsPlaceSum : ByteArray := prog_7_method_18_code
def yX5_personsPlaceSum : MethodName := ⟨RX5, "personsPlaceSum", "(LStablepairBureau$Market;)I"⟩
abbrev cX5_housesPlaceSum : ByteArray := prog_7_method_19_code
def yX5_housesPlaceSum : MethodName := ⟨RX5, "housesPlaceSum", "(LStablepairBureau$Market;)I"⟩
abbrev cX5_placeSum : ByteArray := prog_7_method_20_code
def yX5_placeSum : MethodName := ⟨RX5, "placeSum", "(LStablepairBureau$Market;)I"⟩
abbrev cX5_greatestPlace : ByteArray := prog_7_method_21_code
def yX5_greatestPlace : MethodName := ⟨RX5, "greatestPlace", "(LStablepairBureau$Market;)I"⟩
abbrev cX5_encode : ByteArray := prog_7_method_22_code
def yX5_encode : MethodName := ⟨RX5, "encode", "(I)J"⟩
abbrev cX5_decode : ByteArray := prog_7_method_23_code
def yX5_decode : MethodName := ⟨RX5, "decode", "(JI)V"⟩
def RX6 : String := "StablepairBureau$Rooms"
def TX6 : u_T := fun k => match k with
  | 0 => ("StablepairBureau$Rooms", "count", "I", false)
  | 1 => ("StablepairBureau$Rooms", "partners", "[I", true)
  | _ => ("StablepairBureau$Rooms", "first", "[I", true)
def tyX6 : Nat → FieldType := fun k => match k with
  | 0 => .int
  | 1 => .array .int
  | _ => .array .int
abbrev wsX60 : List Cond := u_ws RX6 TX6 3
theorem nmX6 : ∀ a, a < 3 → ∀ b, b < 3 → a ≠ b → (TX6 a).2.1 ≠ (TX6 b).2.1 := by decide +kernel
theorem tyX6_ok : ∀ k, k < 3 → parseFieldDescriptor (TX6 k).2.2.1 = some (tyX6 k) := by decide +kernel
abbrev cX6_init : ByteArray := prog_8_method_1_code
def yX6_init : MethodName := ⟨RX6, "<init>", "()V"⟩
abbrev cX6_seek : ByteArray := prog_8_method_2_code
def yX6_seek : MethodName := ⟨RX6, "seek", "(LStablepairBureau$Lists;)V"⟩
abbrev cX6_firstMateOf : ByteArray := prog_8_method_3_code
def yX6_firstMateOf : MethodName := ⟨RX6, "firstMateOf", "(I)I"⟩
abbrev cX6_decide : ByteArray := prog_8_method_4_code
def yX6_decide : MethodName := ⟨RX6, "decide", "(LStablepairBureau$Rooms;LStablepairBureau$Lists;I)V"⟩
abbrev cX6_isBlockedBy : ByteArray := prog_8_method_5_code
def yX6_isBlockedBy : MethodName := ⟨RX6, "isBlockedBy", "(LStablepairBureau$Lists;I)Z"⟩
abbrev cX6_wouldGo : ByteArray := prog_8_method_6_code
def yX6_wouldGo : MethodName := ⟨RX6, "wouldGo", "(LStablepairBureau$Lists;II)Z"⟩
abbrev cX6_note : ByteArray := prog_8_method_7_code
def yX6_note : MethodName := ⟨RX6, "note", "()V"⟩
def RX7 : String := "StablepairBureau$Rotations"
def TX7 : u_T := fun k => match k with
  | 0 => ("StablepairBureau$Rotations", "count", "I", false)
  | 1 => ("StablepairBureau$Rotations", "nextHouses", "[I", true)
  | 2 => ("StablepairBureau$Rotations", "nextPersons", "[I", true)
  | 3 => ("StablepairBureau$Rotations", "bars", "[I", true)
  | 4 => ("StablepairBureau$Rotations", "lowest", "[I", true)
  | _ => ("StablepairBureau$Rotations", "sizes", "[I", true)
def tyX7 : Nat → FieldType := fun k => match k with
  | 0 => .int
  | 1 => .array .int
  | 2 => .array .int
  | 3 => .array .int
  | 4 => .array .int
  | _ => .array .int
abbrev wsX70 : List Cond := u_ws RX7 TX7 6
theorem nmX7 : ∀ a, a < 6 → ∀ b, b < 6 → a ≠ b → (TX7 a).2.1 ≠ (TX7 b).2.1 := by decide +kernel
theorem tyX7_ok : ∀ k, k < 6 → parseFieldDescriptor (TX7 k).2.2.1 = some (tyX7 k) := by decide +kernel
abbrev cX7_init : ByteArray := prog_9_method_1_code
def yX7_init : MethodName := ⟨RX7, "<init>", "()V"⟩
abbrev cX7_find : ByteArray := prog_9_method_2_code
def yX7_find : MethodName := ⟨RX7, "find", "(LStablepairBureau$Market;LStablepairBureau$Pairing;)V"⟩
abbrev cX7_nextHouse : ByteArray := prog_9_method_3_code
def yX7_nextHouse : MethodName := ⟨RX7, "nextHouse", "(LStablepairBureau$Market;II)I"⟩
abbrev cX7_nextPerson : ByteArray := prog_9_method_4_code
def yX7_nextPerson : MethodName := ⟨RX7, "nextPerson", "(I)I"⟩
abbrev cX7_ringSize : ByteArray := prog_9_method_5_code
def yX7_ringSize : MethodName := ⟨RX7, "ringSize", "(I)I"⟩
abbrev cX7_sizeOf : ByteArray := prog_9_method_6_code
def yX7_sizeOf : MethodName := ⟨RX7, "sizeOf", "(I)I"⟩
abbrev cX7_memberAt : ByteArray := prog_9_method_7_code
def yX7_memberAt : MethodName := ⟨RX7, "memberAt", "(II)I"⟩
abbrev cX7_turnIn : ByteArray := prog_9_method_8_code
def yX7_turnIn : MethodName := ⟨RX7, "turnIn", "(LStablepairBureau$Pairing;I)V"⟩
def RX8 : String := "StablepairBureau$Text"
def TX8 : u_T := fun k => match k with
  | 0 => ("StablepairBureau$Text", "size", "I", false)
  | 1 => ("StablepairBureau$Text", "signs", "[C", true)
  | 2 => ("StablepairBureau$Text", "found", "I", false)
  | _ => ("StablepairBureau$Text", "numbers", "[I", true)
def tyX8 : Nat → FieldType := fun k => match k with
  | 0 => .int
  | 1 => .array .char
  | 2 => .int
  | _ => .array .int
abbrev wsX80 : List Cond := u_ws RX8 TX8 4
theorem nmX8 : ∀ a, a < 4 → ∀ b, b < 4 → a ≠ b → (TX8 a).2.1 ≠ (TX8 b).2.1 := by decide +kernel
theorem tyX8_ok : ∀ k, k < 4 → parseFieldDescriptor (TX8 k).2.2.1 = some (tyX8 k) := by decide +kernel
abbrev cX8_init : ByteArray := prog_10_method_1_code
def yX8_init : MethodName := ⟨RX8, "<init>", "()V"⟩
abbrev cX8_append : ByteArray := prog_10_method_2_code
def yX8_append : MethodName := ⟨RX8, "append", "(C)V"⟩
abbrev cX8_clear : ByteArray := prog_10_method_3_code
def yX8_clear : MethodName := ⟨RX8, "clear", "()V"⟩
abbrev cX8_sign : ByteArray := prog_10_method_4_code
def yX8_sign : MethodName := ⟨RX8, "sign", "(I)C"⟩
abbrev cX8_isDigit : ByteArray := prog_10_method_5_code
def yX8_isDigit : MethodName := ⟨RX8, "isDigit", "(I)Z"⟩
abbrev cX8_parse : ByteArray := prog_10_method_6_code
def yX8_parse : MethodName := ⟨RX8, "parse", "(II)I"⟩
abbrev cX8_isFound : ByteArray := prog_10_method_7_code
def yX8_isFound : MethodName := ⟨RX8, "isFound", "(I)Z"⟩
abbrev cX8_insert : ByteArray := prog_10_method_8_code
def yX8_insert : MethodName := ⟨RX8, "insert", "(II)V"⟩
abbrev cX8_addTo : ByteArray := prog_10_method_9_code
def yX8_addTo : MethodName := ⟨RX8, "addTo", "(J)J"⟩
def RX9 : String := "StablepairBureau$Trade"
def TX9 : u_T := fun k => match k with
  | 0 => ("StablepairBureau$Trade", "rings", "I", false)
  | 1 => ("StablepairBureau$Trade", "targets", "[I", true)
  | _ => ("StablepairBureau$Trade", "rounds", "[I", true)
def tyX9 : Nat → FieldType := fun k => match k with
  | 0 => .int
  | 1 => .array .int
  | _ => .array .int
abbrev wsX90 : List Cond := u_ws RX9 TX9 3
theorem nmX9 : ∀ a, a < 3 → ∀ b, b < 3 → a ≠ b → (TX9 a).2.1 ≠ (TX9 b).2.1 := by decide +kernel
theorem tyX9_ok : ∀ k, k < 3 → parseFieldDescriptor (TX9 k).2.2.1 = some (tyX9 k) := by decide +kernel
abbrev cX9_init : ByteArray := prog_11_method_1_code
def yX9_init : MethodName := ⟨RX9, "<init>", "()V"⟩
abbrev cX9_settleAll : ByteArray := prog_11_method_2_code
def yX9_settleAll : MethodName := ⟨RX9, "settleAll", "(LStablepairBureau$Lists;)V"⟩
abbrev cX9_houseGotBy : ByteArray := prog_11_method_3_code
def yX9_houseGotBy : MethodName := ⟨RX9, "houseGotBy", "(I)I"⟩
abbrev cX9_roundOf : ByteArray := prog_11_method_4_code
def yX9_roundOf : MethodName := ⟨RX9, "roundOf", "(I)I"⟩
abbrev cX9_settleRound : ByteArray := prog_11_method_5_code
def yX9_settleRound : MethodName := ⟨RX9, "settleRound", "(LStablepairBureau$Lists;I)V"⟩
abbrev cX9_firstLeft : ByteArray := prog_11_method_6_code
def yX9_firstLeft : MethodName := ⟨RX9, "firstLeft", "(LStablepairBureau$Lists;I)I"⟩
abbrev cX9_isInRing : ByteArray := prog_11_method_7_code
def yX9_isInRing : MethodName := ⟨RX9, "isInRing", "(I)Z"⟩
abbrev cX9_closeRing : ByteArray := prog_11_method_8_code
def yX9_closeRing : MethodName := ⟨RX9, "closeRing", "(II)V"⟩
def RX10 : String := "StablepairBureau"
def TX10 : u_T := fun k => match k with
  | 0 => ("StablepairBureau", "market", "LStablepairBureau$Market;", true)
  | 1 => ("StablepairBureau", "mates", "LStablepairBureau$Lists;", true)
  | 2 => ("StablepairBureau", "leasts", "[I", true)
  | 3 => ("StablepairBureau", "text", "LStablepairBureau$Text;", true)
  | 4 => ("StablepairBureau", "pairing", "LStablepairBureau$Pairing;", true)
  | 5 => ("StablepairBureau", "offering", "LStablepairBureau$Offers;", true)
  | 6 => ("StablepairBureau", "gifts", "LStablepairBureau$Gifts;", true)
  | 7 => ("StablepairBureau", "trialMarket", "LStablepairBureau$Market;", true)
  | 8 => ("StablepairBureau", "trial", "LStablepairBureau$Pairing;", true)
  | 9 => ("StablepairBureau", "otherTrial", "LStablepairBureau$Pairing;", true)
  | 10 => ("StablepairBureau", "trialOffers", "LStablepairBureau$Offers;", true)
  | 11 => ("StablepairBureau", "rings", "LStablepairBureau$Rotations;", true)
  | 12 => ("StablepairBureau", "lattice", "LStablepairBureau$Lattice;", true)
  | 13 => ("StablepairBureau", "roommates", "LStablepairBureau$Rooms;", true)
  | _ => ("StablepairBureau", "exchange", "LStablepairBureau$Trade;", true)
def tyX10 : Nat → FieldType := fun k => match k with
  | 0 => .object "StablepairBureau$Market"
  | 1 => .object "StablepairBureau$Lists"
  | 2 => .array .int
  | 3 => .object "StablepairBureau$Text"
  | 4 => .object "StablepairBureau$Pairing"
  | 5 => .object "StablepairBureau$Offers"
  | 6 => .object "StablepairBureau$Gifts"
  | 7 => .object "StablepairBureau$Market"
  | 8 => .object "StablepairBureau$Pairing"
  | 9 => .object "StablepairBureau$Pairing"
  | 10 => .object "StablepairBureau$Offers"
  | 11 => .object "StablepairBureau$Rotations"
  | 12 => .object "StablepairBureau$Lattice"
  | 13 => .object "StablepairBureau$Rooms"
  | _ => .object "StablepairBureau$Trade"
abbrev wsX100 : List Cond := u_ws RX10 TX10 15
theorem nmX10 : ∀ a, a < 15 → ∀ b, b < 15 → a ≠ b → (TX10 a).2.1 ≠ (TX10 b).2.1 := by decide +kernel
theorem tyX10_ok : ∀ k, k < 15 → parseFieldDescriptor (TX10 k).2.2.1 = some (tyX10 k) := by decide +kernel
abbrev cX10_init : ByteArray := prog_1_method_1_code
def yX10_init : MethodName := ⟨RX10, "<init>", "()V"⟩
abbrev cX10_add : ByteArray := prog_1_method_2_code
def yX10_add : MethodName := ⟨RX10, "add", "(C)I"⟩
abbrev cX10_many : ByteArray := prog_1_method_3_code
def yX10_many : MethodName := ⟨RX10, "many", "(C)I"⟩
abbrev cX10_places : ByteArray := prog_1_method_4_code
def yX10_places : MethodName := ⟨RX10, "places", "(II)I"⟩
abbrev cX10_least : ByteArray := prog_1_method_5_code
def yX10_least : MethodName := ⟨RX10, "least", "(II)I"⟩
abbrev cX10_type : ByteArray := prog_1_method_6_code
def yX10_type : MethodName := ⟨RX10, "type", "(C)I"⟩
abbrev cX10_erase : ByteArray := prog_1_method_7_code
def yX10_erase : MethodName := ⟨RX10, "erase", "()I"⟩
abbrev cX10_signAt : ByteArray := prog_1_method_8_code
def yX10_signAt : MethodName := ⟨RX10, "signAt", "(I)C"⟩
abbrev cX10_read : ByteArray := prog_1_method_9_code
def yX10_read : MethodName := ⟨RX10, "read", "(CI)I"⟩
abbrev cX10_length : ByteArray := prog_1_method_10_code
def yX10_length : MethodName := ⟨RX10, "length", "(CI)I"⟩
abbrev cX10_wish : ByteArray := prog_1_method_11_code
def yX10_wish : MethodName := ⟨RX10, "wish", "(CII)I"⟩
abbrev cX10_rank : ByteArray := prog_1_method_12_code
def yX10_rank : MethodName := ⟨RX10, "rank", "(CII)I"⟩
abbrev cX10_cut : ByteArray := prog_1_method_13_code
def yX10_cut : MethodName := ⟨RX10, "cut", "(CII)I"⟩
abbrev cX10_begin : ByteArray := prog_1_method_14_code
def yX10_begin : MethodName := ⟨RX10, "begin", "(C)I"⟩
abbrev cX10_offer : ByteArray := prog_1_method_15_code
def yX10_offer : MethodName := ⟨RX10, "offer", "(I)C"⟩
abbrev cX10_open : ByteArray := prog_1_method_16_code
def yX10_open : MethodName := ⟨RX10, "open", "()I"⟩
abbrev cX10_run : ByteArray := prog_1_method_17_code
def yX10_run : MethodName := ⟨RX10, "run", "(C)I"⟩
abbrev cX10_offers : ByteArray := prog_1_method_18_code
def yX10_offers : MethodName := ⟨RX10, "offers", "()I"⟩
abbrev cX10_offerAt : ByteArray := prog_1_method_19_code
def yX10_offerAt : MethodName := ⟨RX10, "offerAt", "(I)I"⟩
abbrev cX10_resultAt : ByteArray := prog_1_method_20_code
def yX10_resultAt : MethodName := ⟨RX10, "resultAt", "(I)C"⟩
abbrev cX10_pair : ByteArray := prog_1_method_21_code
def yX10_pair : MethodName := ⟨RX10, "pair", "(II)I"⟩
abbrev cX10_part : ByteArray := prog_1_method_22_code
def yX10_part : MethodName := ⟨RX10, "part", "(I)I"⟩
abbrev cX10_houseOf : ByteArray := prog_1_method_23_code
def yX10_houseOf : MethodName := ⟨RX10, "houseOf", "(I)I"⟩
abbrev cX10_held : ByteArray := prog_1_method_24_code
def yX10_held : MethodName := ⟨RX10, "held", "(I)I"⟩
abbrev cX10_heldAt : ByteArray := prog_1_method_25_code
def yX10_heldAt : MethodName := ⟨RX10, "heldAt", "(II)I"⟩
abbrev cX10_blocks : ByteArray := prog_1_method_26_code
def yX10_blocks : MethodName := ⟨RX10, "blocks", "()I"⟩
abbrev cX10_blockAt : ByteArray := prog_1_method_27_code
def yX10_blockAt : MethodName := ⟨RX10, "blockAt", "(I)I"⟩
abbrev cX10_isStable : ByteArray := prog_1_method_28_code
def yX10_isStable : MethodName := ⟨RX10, "isStable", "()Z"⟩
abbrev cX10_filled : ByteArray := prog_1_method_29_code
def yX10_filled : MethodName := ⟨RX10, "filled", "(I)I"⟩
abbrev cX10_lacks : ByteArray := prog_1_method_30_code
def yX10_lacks : MethodName := ⟨RX10, "lacks", "(I)I"⟩
abbrev cX10_rotations : ByteArray := prog_1_method_31_code
def yX10_rotations : MethodName := ⟨RX10, "rotations", "()I"⟩
abbrev cX10_rotationLength : ByteArray := prog_1_method_32_code
def yX10_rotationLength : MethodName := ⟨RX10, "rotationLength", "(I)I"⟩
abbrev cX10_rotationAt : ByteArray := prog_1_method_33_code
def yX10_rotationAt : MethodName := ⟨RX10, "rotationAt", "(II)I"⟩
abbrev cX10_turn : ByteArray := prog_1_method_34_code
def yX10_turn : MethodName := ⟨RX10, "turn", "(I)I"⟩
abbrev cX10_stables : ByteArray := prog_1_method_35_code
def yX10_stables : MethodName := ⟨RX10, "stables", "()I"⟩
abbrev cX10_stableAt : ByteArray := prog_1_method_36_code
def yX10_stableAt : MethodName := ⟨RX10, "stableAt", "(I)I"⟩
abbrev cX10_fairest : ByteArray := prog_1_method_37_code
def yX10_fairest : MethodName := ⟨RX10, "fairest", "(C)I"⟩
abbrev cX10_gain : ByteArray := prog_1_method_38_code
def yX10_gain : MethodName := ⟨RX10, "gain", "(I)I"⟩
abbrev cX10_cutFor : ByteArray := prog_1_method_39_code
def yX10_cutFor : MethodName := ⟨RX10, "cutFor", "(I)I"⟩
abbrev cX10_lie : ByteArray := prog_1_method_40_code
def yX10_lie : MethodName := ⟨RX10, "lie", "(I)I"⟩
abbrev cX10_without : ByteArray := prog_1_method_41_code
def yX10_without : MethodName := ⟨RX10, "without", "(I)I"⟩
abbrev cX10_withoutHouse : ByteArray := prog_1_method_42_code
def yX10_withoutHouse : MethodName := ⟨RX10, "withoutHouse", "(I)I"⟩
abbrev cX10_rooms : ByteArray := prog_1_method_43_code
def yX10_rooms : MethodName := ⟨RX10, "rooms", "()I"⟩
abbrev cX10_roomOf : ByteArray := prog_1_method_44_code
def yX10_roomOf : MethodName := ⟨RX10, "roomOf", "(I)I"⟩
abbrev cX10_trade : ByteArray := prog_1_method_45_code
def yX10_trade : MethodName := ⟨RX10, "trade", "()I"⟩
abbrev cX10_tradeOf : ByteArray := prog_1_method_46_code
def yX10_tradeOf : MethodName := ⟨RX10, "tradeOf", "(I)I"⟩
abbrev cX10_tradeRound : ByteArray := prog_1_method_47_code
def yX10_tradeRound : MethodName := ⟨RX10, "tradeRound", "(I)I"⟩
abbrev cX10_give : ByteArray := prog_1_method_48_code
def yX10_give : MethodName := ⟨RX10, "give", "(IIZ)Z"⟩
abbrev cX10_helped : ByteArray := prog_1_method_49_code
def yX10_helped : MethodName := ⟨RX10, "helped", "(I)I"⟩
abbrev cX10_meanRank : ByteArray := prog_1_method_50_code
def yX10_meanRank : MethodName := ⟨RX10, "meanRank", "(C)D"⟩
abbrev cX10_pairedShare : ByteArray := prog_1_method_51_code
def yX10_pairedShare : MethodName := ⟨RX10, "pairedShare", "()F"⟩
abbrev cX10_checksum : ByteArray := prog_1_method_52_code
def yX10_checksum : MethodName := ⟨RX10, "checksum", "()J"⟩
abbrev cX10_isTrue : ByteArray := prog_1_method_53_code
def yX10_isTrue : MethodName := ⟨RX10, "isTrue", "()Z"⟩
abbrev cX10_needSide : ByteArray := prog_1_method_54_code
def yX10_needSide : MethodName := ⟨RX10, "needSide", "(C)LStablepairBureau$Lists;"⟩
abbrev cX10_needOne : ByteArray := prog_1_method_55_code
def yX10_needOne : MethodName := ⟨RX10, "needOne", "(CI)LStablepairBureau$Lists;"⟩
abbrev cX10_otherSideOf : ByteArray := prog_1_method_56_code
def yX10_otherSideOf : MethodName := ⟨RX10, "otherSideOf", "(C)LStablepairBureau$Lists;"⟩
abbrev cX10_needOfferSide : ByteArray := prog_1_method_57_code
def yX10_needOfferSide : MethodName := ⟨RX10, "needOfferSide", "(C)V"⟩
abbrev cX10_needPerson : ByteArray := prog_1_method_58_code
def yX10_needPerson : MethodName := ⟨RX10, "needPerson", "(I)V"⟩
abbrev cX10_needHouse : ByteArray := prog_1_method_59_code
def yX10_needHouse : MethodName := ⟨RX10, "needHouse", "(I)V"⟩
abbrev cX10_needHouseOfOnePlace : ByteArray := prog_1_method_60_code
def yX10_needHouseOfOnePlace : MethodName := ⟨RX10, "needHouseOfOnePlace", "(I)V"⟩
abbrev cX10_needOffers : ByteArray := prog_1_method_61_code
def yX10_needOffers : MethodName := ⟨RX10, "needOffers", "()V"⟩
abbrev cX10_needOfferIndex : ByteArray := prog_1_method_62_code
def yX10_needOfferIndex : MethodName := ⟨RX10, "needOfferIndex", "(I)V"⟩
abbrev cX10_needFewMates : ByteArray := prog_1_method_63_code
def yX10_needFewMates : MethodName := ⟨RX10, "needFewMates", "()V"⟩
abbrev cX10_needOwners : ByteArray := prog_1_method_64_code
def yX10_needOwners : MethodName := ⟨RX10, "needOwners", "()V"⟩
abbrev cX10_needRotation : ByteArray := prog_1_method_65_code
def yX10_needRotation : MethodName := ⟨RX10, "needRotation", "(I)V"⟩
abbrev cX10_findRotations : ByteArray := prog_1_method_66_code
def yX10_findRotations : MethodName := ⟨RX10, "findRotations", "()V"⟩
abbrev cX10_gatherStables : ByteArray := prog_1_method_67_code
def yX10_gatherStables : MethodName := ⟨RX10, "gatherStables", "()V"⟩
abbrev cX10_letAllGo : ByteArray := prog_1_method_68_code
def yX10_letAllGo : MethodName := ⟨RX10, "letAllGo", "()V"⟩
abbrev cX10_leastOf : ByteArray := prog_1_method_69_code
def yX10_leastOf : MethodName := ⟨RX10, "leastOf", "(I)I"⟩
abbrev cX10_adopt : ByteArray := prog_1_method_70_code
def yX10_adopt : MethodName := ⟨RX10, "adopt", "(I)V"⟩
abbrev cX10_stableLoad : ByteArray := prog_1_method_71_code
def yX10_stableLoad : MethodName := ⟨RX10, "stableLoad", "(I)I"⟩
abbrev cX10_placeByCut : ByteArray := prog_1_method_72_code
def yX10_placeByCut : MethodName := ⟨RX10, "placeByCut", "(II)I"⟩
abbrev cX10_betterPlace : ByteArray := prog_1_method_73_code
def yX10_betterPlace : MethodName := ⟨RX10, "betterPlace", "(II)I"⟩
abbrev cX10_personsHoldTheorem : ByteArray := prog_1_method_74_code
def yX10_personsHoldTheorem : MethodName := ⟨RX10, "personsHoldTheorem", "()Z"⟩
abbrev cX10_housesHoldTheorem : ByteArray := prog_1_method_75_code
def yX10_housesHoldTheorem : MethodName := ⟨RX10, "housesHoldTheorem", "()Z"⟩
abbrev cX10_everyTurnIsCalm : ByteArray := prog_1_method_76_code
def yX10_everyTurnIsCalm : MethodName := ⟨RX10, "everyTurnIsCalm", "()Z"⟩
def RX11 : String := "StablepairBureauModel"
def TX11 : u_T := fun k => match k with
  | 0 => ("StablepairBureauModel", "many", "[I", true)
  | 1 => ("StablepairBureauModel", "lists", "[[I", true)
  | 2 => ("StablepairBureauModel", "lengths", "[I", true)
  | 3 => ("StablepairBureauModel", "places", "[I", true)
  | 4 => ("StablepairBureauModel", "leasts", "[I", true)
  | 5 => ("StablepairBureauModel", "houses", "[I", false)
  | 6 => ("StablepairBureauModel", "offering", "C", false)
  | 7 => ("StablepairBureauModel", "nexts", "[I", false)
  | 8 => ("StablepairBureauModel", "made", "[I", true)
  | 9 => ("StablepairBureauModel", "results", "[C", true)
  | 10 => ("StablepairBureauModel", "offers", "I", false)
  | 11 => ("StablepairBureauModel", "can", "[[Z", true)
  | 12 => ("StablepairBureauModel", "text", "[C", true)
  | 13 => ("StablepairBureauModel", "typed", "I", false)
  | 14 => ("StablepairBureauModel", "asked", "I", false)
  | 15 => ("StablepairBureauModel", "thrown", "I", false)
  | 16 => ("StablepairBureauModel", "readMany", "I", false)
  | 17 => ("StablepairBureauModel", "stables", "[[I", true)
  | 18 => ("StablepairBureauModel", "stableMany", "I", false)
  | 19 => ("StablepairBureauModel", "firstRooms", "[I", false)
  | 20 => ("StablepairBureauModel", "rounds", "[I", true)
  | _ => ("StablepairBureauModel", "traded", "[I", true)
def tyX11 : Nat → FieldType := fun k => match k with
  | 0 => .array .int
  | 1 => .array (.array .int)
  | 2 => .array .int
  | 3 => .array .int
  | 4 => .array .int
  | 5 => .array .int
  | 6 => .char
  | 7 => .array .int
  | 8 => .array .int
  | 9 => .array .char
  | 10 => .int
  | 11 => .array (.array .boolean)
  | 12 => .array .char
  | 13 => .int
  | 14 => .int
  | 15 => .int
  | 16 => .int
  | 17 => .array (.array .int)
  | 18 => .int
  | 19 => .array .int
  | 20 => .array .int
  | _ => .array .int
abbrev wsX110 : List Cond := u_ws RX11 TX11 22
theorem nmX11 : ∀ a, a < 22 → ∀ b, b < 22 → a ≠ b → (TX11 a).2.1 ≠ (TX11 b).2.1 := by decide +kernel
theorem tyX11_ok : ∀ k, k < 22 → parseFieldDescriptor (TX11 k).2.2.1 = some (tyX11 k) := by decide +kernel
abbrev cX11_init : ByteArray := prog_13_method_1_code
def yX11_init : MethodName := ⟨RX11, "<init>", "()V"⟩
abbrev cX11_thrown : ByteArray := prog_13_method_2_code
def yX11_thrown : MethodName := ⟨RX11, "thrown", "()I"⟩
abbrev cX11_fails : ByteArray := prog_13_method_3_code
def yX11_fails : MethodName := ⟨RX11, "fails", "(ZZZ)Z"⟩
abbrev cX11_in : ByteArray := prog_13_method_4_code
def yX11_in : MethodName := ⟨RX11, "in", "(III)Z"⟩
abbrev cX11_alone : ByteArray := prog_13_method_5_code
def yX11_alone : MethodName := ⟨RX11, "alone", "()[I"⟩
abbrev cX11_copied : ByteArray := prog_13_method_6_code
def yX11_copied : MethodName := ⟨RX11, "copied", "([I)[I"⟩
abbrev cX11_letsGo : ByteArray := prog_13_method_7_code
def yX11_letsGo : MethodName := ⟨RX11, "letsGo", "()V"⟩
abbrev cX11_sideOf : ByteArray := prog_13_method_8_code
def yX11_sideOf : MethodName := ⟨RX11, "sideOf", "(C)I"⟩
abbrev cX11_isPerson : ByteArray := prog_13_method_9_code
def yX11_isPerson : MethodName := ⟨RX11, "isPerson", "(I)Z"⟩
abbrev cX11_isHouse : ByteArray := prog_13_method_10_code
def yX11_isHouse : MethodName := ⟨RX11, "isHouse", "(I)Z"⟩
abbrev cX11_placeOf : ByteArray := prog_13_method_11_code
def yX11_placeOf : MethodName := ⟨RX11, "placeOf", "(III)I"⟩
abbrev cX11_areOn : ByteArray := prog_13_method_12_code
def yX11_areOn : MethodName := ⟨RX11, "areOn", "(II)Z"⟩
abbrev cX11_heldBy : ByteArray := prog_13_method_13_code
def yX11_heldBy : MethodName := ⟨RX11, "heldBy", "(I[I)I"⟩
abbrev cX11_isFull : ByteArray := prog_13_method_14_code
def yX11_isFull : MethodName := ⟨RX11, "isFull", "(I[I)Z"⟩
abbrev cX11_lastOf : ByteArray := prog_13_method_15_code
def yX11_lastOf : MethodName := ⟨RX11, "lastOf", "(I[I)I"⟩
abbrev cX11_isAhead : ByteArray := prog_13_method_16_code
def yX11_isAhead : MethodName := ⟨RX11, "isAhead", "(IIII)Z"⟩
abbrev cX11_blocks : ByteArray := prog_13_method_17_code
def yX11_blocks : MethodName := ⟨RX11, "blocks", "(II[I)Z"⟩
abbrev cX11_blocksOf : ByteArray := prog_13_method_18_code
def yX11_blocksOf : MethodName := ⟨RX11, "blocksOf", "([I)I"⟩
abbrev cX11_canOffer : ByteArray := prog_13_method_19_code
def yX11_canOffer : MethodName := ⟨RX11, "canOffer", "(ZI[I[II)Z"⟩
abbrev cX11_offers : ByteArray := prog_13_method_20_code
def yX11_offers : MethodName := ⟨RX11, "offers", "(ZI[I[II)C"⟩
abbrev cX11_all : ByteArray := prog_13_method_21_code
def yX11_all : MethodName := ⟨RX11, "all", "(ZII)[I"⟩
abbrev cX11_byPersons : ByteArray := prog_13_method_22_code
def yX11_byPersons : MethodName := ⟨RX11, "byPersons", "()[I"⟩
abbrev cX11_add : ByteArray := prog_13_method_23_code
def yX11_add : MethodName := ⟨RX11, "add", "(C)I"⟩
abbrev cX11_many : ByteArray := prog_13_method_24_code
def yX11_many : MethodName := ⟨RX11, "many", "(C)I"⟩
abbrev cX11_places : ByteArray := prog_13_method_25_code
def yX11_places : MethodName := ⟨RX11, "places", "(II)I"⟩
abbrev cX11_least : ByteArray := prog_13_method_26_code
def yX11_least : MethodName := ⟨RX11, "least", "(II)I"⟩
abbrev cX11_type : ByteArray := prog_13_method_27_code
def yX11_type : MethodName := ⟨RX11, "type", "(C)I"⟩
abbrev cX11_erase : ByteArray := prog_13_method_28_code
def yX11_erase : MethodName := ⟨RX11, "erase", "()I"⟩
abbrev cX11_signAt : ByteArray := prog_13_method_29_code
def yX11_signAt : MethodName := ⟨RX11, "signAt", "(I)C"⟩
abbrev cX11_reads : ByteArray := prog_13_method_30_code
def yX11_reads : MethodName := ⟨RX11, "reads", "(II[I)I"⟩
abbrev cX11_stands : ByteArray := prog_13_method_31_code
def yX11_stands : MethodName := ⟨RX11, "stands", "([III)Z"⟩
abbrev cX11_isOne : ByteArray := prog_13_method_32_code
def yX11_isOne : MethodName := ⟨RX11, "isOne", "(II)Z"⟩
abbrev cX11_read : ByteArray := prog_13_method_33_code
def yX11_read : MethodName := ⟨RX11, "read", "(CI)I"⟩
abbrev cX11_length : ByteArray := prog_13_method_34_code
def yX11_length : MethodName := ⟨RX11, "length", "(CI)I"⟩
abbrev cX11_wish : ByteArray := prog_13_method_35_code
def yX11_wish : MethodName := ⟨RX11, "wish", "(CII)I"⟩
abbrev cX11_rank : ByteArray := prog_13_method_36_code
def yX11_rank : MethodName := ⟨RX11, "rank", "(CII)I"⟩
abbrev cX11_cut : ByteArray := prog_13_method_37_code
def yX11_cut : MethodName := ⟨RX11, "cut", "(CII)I"⟩
abbrev cX11_openNow : ByteArray := prog_13_method_38_code
def yX11_openNow : MethodName := ⟨RX11, "openNow", "()I"⟩
abbrev cX11_begins : ByteArray := prog_13_method_39_code
def yX11_begins : MethodName := ⟨RX11, "begins", "(C)V"⟩
abbrev cX11_begin : ByteArray := prog_13_method_40_code
def yX11_begin : MethodName := ⟨RX11, "begin", "(C)I"⟩
abbrev cX11_makes : ByteArray := prog_13_method_41_code
def yX11_makes : MethodName := ⟨RX11, "makes", "(I)C"⟩
abbrev cX11_offer : ByteArray := prog_13_method_42_code
def yX11_offer : MethodName := ⟨RX11, "offer", "(I)C"⟩
abbrev cX11_open : ByteArray := prog_13_method_43_code
def yX11_open : MethodName := ⟨RX11, "open", "()I"⟩
abbrev cX11_run : ByteArray := prog_13_method_44_code
def yX11_run : MethodName := ⟨RX11, "run", "(C)I"⟩
abbrev cX11_offers_ : ByteArray := prog_13_method_45_code
def yX11_offers_ : MethodName := ⟨RX11, "offers", "()I"⟩
abbrev cX11_offerAt : ByteArray := prog_13_method_46_code
def yX11_offerAt : MethodName := ⟨RX11, "offerAt", "(I)I"⟩
abbrev cX11_resultAt : ByteArray := prog_13_method_47_code
def yX11_resultAt : MethodName := ⟨RX11, "resultAt", "(I)C"⟩
abbrev cX11_pair : ByteArray := prog_13_method_48_code
def yX11_pair : MethodName := ⟨RX11, "pair", "(II)I"⟩
abbrev cX11_part : ByteArray := prog_13_method_49_code
def yX11_part : MethodName := ⟨RX11, "part", "(I)I"⟩
abbrev cX11_houseOf : ByteArray := prog_13_method_50_code
def yX11_houseOf : MethodName := ⟨RX11, "houseOf", "(I)I"⟩
abbrev cX11_held : ByteArray := prog_13_method_51_code
def yX11_held : MethodName := ⟨RX11, "held", "(I)I"⟩
abbrev cX11_heldAt : ByteArray := prog_13_method_52_code
def yX11_heldAt : MethodName := ⟨RX11, "heldAt", "(II)I"⟩
abbrev cX11_blocks_ : ByteArray := prog_13_method_53_code
def yX11_blocks_ : MethodName := ⟨RX11, "blocks", "()I"⟩
abbrev cX11_blockAt : ByteArray := prog_13_method_54_code
def yX11_blockAt : MethodName := ⟨RX11, "blockAt", "(I)I"⟩
abbrev cX11_isStable : ByteArray := prog_13_method_55_code
def yX11_isStable : MethodName := ⟨RX11, "isStable", "()Z"⟩
abbrev cX11_filled : ByteArray := prog_13_method_56_code
def yX11_filled : MethodName := ⟨RX11, "filled", "(I)I"⟩
abbrev cX11_lacks : ByteArray := prog_13_method_57_code
def yX11_lacks : MethodName := ⟨RX11, "lacks", "(I)I"⟩
abbrev cX11_nextHouse : ByteArray := prog_13_method_58_code
def yX11_nextHouse : MethodName := ⟨RX11, "nextHouse", "(I[I)I"⟩
abbrev cX11_nextPerson : ByteArray := prog_13_method_59_code
def yX11_nextPerson : MethodName := ⟨RX11, "nextPerson", "(I[I)I"⟩
abbrev cX11_ringOf : ByteArray := prog_13_method_60_code
def yX11_ringOf : MethodName := ⟨RX11, "ringOf", "(I[I)I"⟩
abbrev cX11_ringsOf : ByteArray := prog_13_method_61_code
def yX11_ringsOf : MethodName := ⟨RX11, "ringsOf", "([I)I"⟩
abbrev cX11_lowestOf : ByteArray := prog_13_method_62_code
def yX11_lowestOf : MethodName := ⟨RX11, "lowestOf", "(I[I)I"⟩
abbrev cX11_turned : ByteArray := prog_13_method_63_code
def yX11_turned : MethodName := ⟨RX11, "turned", "(I[I)[I"⟩
abbrev cX11_isRotation : ByteArray := prog_13_method_64_code
def yX11_isRotation : MethodName := ⟨RX11, "isRotation", "(I)Z"⟩
abbrev cX11_rotations : ByteArray := prog_13_method_65_code
def yX11_rotations : MethodName := ⟨RX11, "rotations", "()I"⟩
abbrev cX11_rotationLength : ByteArray := prog_13_method_66_code
def yX11_rotationLength : MethodName := ⟨RX11, "rotationLength", "(I)I"⟩
abbrev cX11_rotationAt : ByteArray := prog_13_method_67_code
def yX11_rotationAt : MethodName := ⟨RX11, "rotationAt", "(II)I"⟩
abbrev cX11_turn : ByteArray := prog_13_method_68_code
def yX11_turn : MethodName := ⟨RX11, "turn", "(I)I"⟩
abbrev cX11_compared : ByteArray := prog_13_method_69_code
def yX11_compared : MethodName := ⟨RX11, "compared", "([I[I)I"⟩
abbrev cX11_finds : ByteArray := prog_13_method_70_code
def yX11_finds : MethodName := ⟨RX11, "finds", "([I)V"⟩
abbrev cX11_areTooMany : ByteArray := prog_13_method_71_code
def yX11_areTooMany : MethodName := ⟨RX11, "areTooMany", "()Z"⟩
abbrev cX11_stables : ByteArray := prog_13_method_72_code
def yX11_stables : MethodName := ⟨RX11, "stables", "()I"⟩
abbrev cX11_becomes : ByteArray := prog_13_method_73_code
def yX11_becomes : MethodName := ⟨RX11, "becomes", "(I)I"⟩
abbrev cX11_stableAt : ByteArray := prog_13_method_74_code
def yX11_stableAt : MethodName := ⟨RX11, "stableAt", "(I)I"⟩
abbrev cX11_worth : ByteArray := prog_13_method_75_code
def yX11_worth : MethodName := ⟨RX11, "worth", "(C[I)I"⟩
abbrev cX11_fairest : ByteArray := prog_13_method_76_code
def yX11_fairest : MethodName := ⟨RX11, "fairest", "(C)I"⟩
abbrev cX11_placeBy : ByteArray := prog_13_method_77_code
def yX11_placeBy : MethodName := ⟨RX11, "placeBy", "(II)I"⟩
abbrev cX11_gainOf : ByteArray := prog_13_method_78_code
def yX11_gainOf : MethodName := ⟨RX11, "gainOf", "(I)I"⟩
abbrev cX11_gain : ByteArray := prog_13_method_79_code
def yX11_gain : MethodName := ⟨RX11, "gain", "(I)I"⟩
abbrev cX11_cutFor : ByteArray := prog_13_method_80_code
def yX11_cutFor : MethodName := ⟨RX11, "cutFor", "(I)I"⟩
abbrev cX11_lie : ByteArray := prog_13_method_81_code
def yX11_lie : MethodName := ⟨RX11, "lie", "(I)I"⟩
abbrev cX11_differ : ByteArray := prog_13_method_82_code
def yX11_differ : MethodName := ⟨RX11, "differ", "([I[II)I"⟩
abbrev cX11_without : ByteArray := prog_13_method_83_code
def yX11_without : MethodName := ⟨RX11, "without", "(I)I"⟩
abbrev cX11_withoutHouse : ByteArray := prog_13_method_84_code
def yX11_withoutHouse : MethodName := ⟨RX11, "withoutHouse", "(I)I"⟩
abbrev cX11_areMates : ByteArray := prog_13_method_85_code
def yX11_areMates : MethodName := ⟨RX11, "areMates", "(II)Z"⟩
abbrev cX11_wants : ByteArray := prog_13_method_86_code
def yX11_wants : MethodName := ⟨RX11, "wants", "(II[I)Z"⟩
abbrev cX11_isQuiet : ByteArray := prog_13_method_87_code
def yX11_isQuiet : MethodName := ⟨RX11, "isQuiet", "([I)Z"⟩
abbrev cX11_quiet : ByteArray := prog_13_method_88_code
def yX11_quiet : MethodName := ⟨RX11, "quiet", "()I"⟩
abbrev cX11_rooms : ByteArray := prog_13_method_89_code
def yX11_rooms : MethodName := ⟨RX11, "rooms", "()I"⟩
abbrev cX11_roomOf : ByteArray := prog_13_method_90_code
def yX11_roomOf : MethodName := ⟨RX11, "roomOf", "(I)I"⟩
abbrev cX11_pointsTo : ByteArray := prog_13_method_91_code
def yX11_pointsTo : MethodName := ⟨RX11, "pointsTo", "(I)I"⟩
abbrev cX11_trades : ByteArray := prog_13_method_92_code
def yX11_trades : MethodName := ⟨RX11, "trades", "()I"⟩
abbrev cX11_trade : ByteArray := prog_13_method_93_code
def yX11_trade : MethodName := ⟨RX11, "trade", "()I"⟩
abbrev cX11_tradeOf : ByteArray := prog_13_method_94_code
def yX11_tradeOf : MethodName := ⟨RX11, "tradeOf", "(I)I"⟩
abbrev cX11_tradeRound : ByteArray := prog_13_method_95_code
def yX11_tradeRound : MethodName := ⟨RX11, "tradeRound", "(I)I"⟩
abbrev cX11_give : ByteArray := prog_13_method_96_code
def yX11_give : MethodName := ⟨RX11, "give", "(IIZ)Z"⟩
abbrev cX11_helped : ByteArray := prog_13_method_97_code
def yX11_helped : MethodName := ⟨RX11, "helped", "(I)I"⟩
abbrev cX11_pairedMany : ByteArray := prog_13_method_98_code
def yX11_pairedMany : MethodName := ⟨RX11, "pairedMany", "()I"⟩
abbrev cX11_meanRank : ByteArray := prog_13_method_99_code
def yX11_meanRank : MethodName := ⟨RX11, "meanRank", "(C)D"⟩
abbrev cX11_pairedShare : ByteArray := prog_13_method_100_code
def yX11_pairedShare : MethodName := ⟨RX11, "pairedShare", "()F"⟩
abbrev cX11_checksum : ByteArray := prog_13_method_101_code
def yX11_checksum : MethodName := ⟨RX11, "checksum", "()J"⟩
abbrev cX11_isTrue : ByteArray := prog_13_method_102_code
def yX11_isTrue : MethodName := ⟨RX11, "isTrue", "()Z"⟩
def RJx145de : String := "java/io/Serializable"
def TJx145de : u_T := fun k => match k with
  | _ => ("", "", "", false)
def tyJx145de : Nat → FieldType := fun k => match k with
  | _ => .int
abbrev wsJx145de0 : List Cond := u_ws RJx145de TJx145de 0
theorem nmJx145de : ∀ a, a < 0 → ∀ b, b < 0 → a ≠ b → (TJx145de a).2.1 ≠ (TJx145de b).2.1 := by decide +kernel
theorem tyJx145de_ok : ∀ k, k < 0 → parseFieldDescriptor (TJx145de k).2.2.1 = some (tyJx145de k) := by decide +kernel
def RJx00060 : String := "java/lang/ArrayIndexOutOfBoundsException"
def TJx00060 : u_T := fun k => match k with
  | 0 => ("java/lang/Throwable", "backtrace", "Ljava/lang/Object;", false)
  | 1 => ("java/lang/Throwable", "detailMessage", "Ljava/lang/String;", false)
  | 2 => ("java/lang/Throwable", "cause", "Ljava/lang/Throwable;", false)
  | 3 => ("java/lang/Throwable", "stackTrace", "[Ljava/lang/StackTraceElement;", false)
  | 4 => ("java/lang/Throwable", "depth", "I", false)
  | _ => ("java/lang/Throwable", "suppressedExceptions", "Ljava/util/List;", false)
def tyJx00060 : Nat → FieldType := fun k => match k with
  | 0 => .object "java/lang/Object"
  | 1 => .object "java/lang/String"
  | 2 => .object "java/lang/Throwable"
  | 3 => .array (.object "java/lang/StackTraceElement")
  | 4 => .int
  | _ => .object "java/util/List"
abbrev wsJx000600 : List Cond := u_ws RJx00060 TJx00060 6
theorem nmJx00060 : ∀ a, a < 6 → ∀ b, b < 6 → a ≠ b → (TJx00060 a).2.1 ≠ (TJx00060 b).2.1 := by decide +kernel
theorem tyJx00060_ok : ∀ k, k < 6 → parseFieldDescriptor (TJx00060 k).2.2.1 = some (tyJx00060 k) := by decide +kernel
abbrev cJx00060_init_a7421 : ByteArray := prog_16_method_2_code
def yJx00060_init_a7421 : MethodName := ⟨RJx00060, "<init>", "(Ljava/lang/String;)V"⟩
def RJx9f9b0 : String := "java/lang/CharSequence"
def TJx9f9b0 : u_T := fun k => match k with
  | _ => ("", "", "", false)
def tyJx9f9b0 : Nat → FieldType := fun k => match k with
  | _ => .int
abbrev wsJx9f9b00 : List Cond := u_ws RJx9f9b0 TJx9f9b0 0
theorem nmJx9f9b0 : ∀ a, a < 0 → ∀ b, b < 0 → a ≠ b → (TJx9f9b0 a).2.1 ≠ (TJx9f9b0 b).2.1 := by decide +kernel
theorem tyJx9f9b0_ok : ∀ k, k < 0 → parseFieldDescriptor (TJx9f9b0 k).2.2.1 = some (tyJx9f9b0 k) := by decide +kernel
def RJ11 : String := "java/lang/Character"
def TJ11 : u_T := fun k => match k with
  | _ => ("", "", "", false)
def tyJ11 : Nat → FieldType := fun k => match k with
  | _ => .int
abbrev wsJ110 : List Cond := u_ws RJ11 TJ11 0
theorem nmJ11 : ∀ a, a < 0 → ∀ b, b < 0 → a ≠ b → (TJ11 a).2.1 ≠ (TJ11 b).2.1 := by decide +kernel
theorem tyJ11_ok : ∀ k, k < 0 → parseFieldDescriptor (TJ11 k).2.2.1 = some (tyJ11 k) := by decide +kernel
abbrev cJ11_isValidCodePoint_9a6ad : ByteArray := prog_18_method_11_code
def yJ11_isValidCodePoint_9a6ad : MethodName := ⟨RJ11, "isValidCodePoint", "(I)Z"⟩
abbrev cJ11_highSurrogate_5068e : ByteArray := prog_18_method_28_code
def yJ11_highSurrogate_5068e : MethodName := ⟨RJ11, "highSurrogate", "(I)C"⟩
abbrev cJ11_lowSurrogate_5068e : ByteArray := prog_18_method_29_code
def yJ11_lowSurrogate_5068e : MethodName := ⟨RJ11, "lowSurrogate", "(I)C"⟩
def RJxb160c : String := "java/lang/Comparable"
def TJxb160c : u_T := fun k => match k with
  | _ => ("", "", "", false)
def tyJxb160c : Nat → FieldType := fun k => match k with
  | _ => .int
abbrev wsJxb160c0 : List Cond := u_ws RJxb160c TJxb160c 0
theorem nmJxb160c : ∀ a, a < 0 → ∀ b, b < 0 → a ≠ b → (TJxb160c a).2.1 ≠ (TJxb160c b).2.1 := by decide +kernel
theorem tyJxb160c_ok : ∀ k, k < 0 → parseFieldDescriptor (TJxb160c k).2.2.1 = some (tyJxb160c k) := by decide +kernel
def RJ9 : String := "java/lang/Math"
def TJ9 : u_T := fun k => match k with
  | _ => ("", "", "", false)
def tyJ9 : Nat → FieldType := fun k => match k with
  | _ => .int
abbrev wsJ90 : List Cond := u_ws RJ9 TJ9 0
theorem nmJ9 : ∀ a, a < 0 → ∀ b, b < 0 → a ≠ b → (TJ9 a).2.1 ≠ (TJ9 b).2.1 := by decide +kernel
theorem tyJ9_ok : ∀ k, k < 0 → parseFieldDescriptor (TJ9 k).2.2.1 = some (tyJ9 k) := by decide +kernel
abbrev cJ9_max_7cf53 : ByteArray := prog_24_method_65_code
def yJ9_max_7cf53 : MethodName := ⟨RJ9, "max", "(II)I"⟩
abbrev cJ9_min_7cf53 : ByteArray := prog_24_method_69_code
def yJ9_min_7cf53 : MethodName := ⟨RJ9, "min", "(II)I"⟩
def RJ0 : String := "java/lang/String"
def TJ0 : u_T := fun k => match k with
  | 0 => ("java/lang/String", "value", "[B", true)
  | _ => ("java/lang/String", "coder", "B", true)
def tyJ0 : Nat → FieldType := fun k => match k with
  | 0 => .array .byte
  | _ => .byte
abbrev wsJ00 : List Cond := u_ws RJ0 TJ0 2
theorem nmJ0 : ∀ a, a < 2 → ∀ b, b < 2 → a ≠ b → (TJ0 a).2.1 ≠ (TJ0 b).2.1 := by decide +kernel
theorem tyJ0_ok : ∀ k, k < 2 → parseFieldDescriptor (TJ0 k).2.2.1 = some (tyJ0 k) := by decide +kernel
abbrev cJ0_length_8abf5 : ByteArray := prog_26_method_54_code
def yJ0_length_8abf5 : MethodName := ⟨RJ0, "length", "()I"⟩
abbrev cJ0_indexOf_0f7a4 : ByteArray := prog_26_method_79_code
def yJ0_indexOf_0f7a4 : MethodName := ⟨RJ0, "indexOf", "(I)I"⟩
abbrev cJ0_indexOf_7cf53 : ByteArray := prog_26_method_80_code
def yJ0_indexOf_7cf53 : MethodName := ⟨RJ0, "indexOf", "(II)I"⟩
abbrev cJ0_coder_7d493 : ByteArray := prog_26_method_152_code
def yJ0_coder_7d493 : MethodName := ⟨RJ0, "coder", "()B"⟩
abbrev cJ0_isLatin1_aae02 : ByteArray := prog_26_method_154_code
def yJ0_isLatin1_aae02 : MethodName := ⟨RJ0, "isLatin1", "()Z"⟩
abbrev cJ0_checkBoundsBeginEnd_23922 : ByteArray := prog_26_method_158_code
def yJ0_checkBoundsBeginEnd_23922 : MethodName := ⟨RJ0, "checkBoundsBeginEnd", "(III)V"⟩
def RJ1 : String := "java/lang/StringLatin1"
def TJ1 : u_T := fun k => match k with
  | _ => ("", "", "", false)
def tyJ1 : Nat → FieldType := fun k => match k with
  | _ => .int
abbrev wsJ10 : List Cond := u_ws RJ1 TJ1 0
theorem nmJ1 : ∀ a, a < 0 → ∀ b, b < 0 → a ≠ b → (TJ1 a).2.1 ≠ (TJ1 b).2.1 := by decide +kernel
theorem tyJ1_ok : ∀ k, k < 0 → parseFieldDescriptor (TJ1 k).2.2.1 = some (tyJ1 k) := by decide +kernel
abbrev cJ1_canEncode_9a6ad : ByteArray := prog_27_method_4_code
def yJ1_canEncode_9a6ad : MethodName := ⟨RJ1, "canEncode", "(I)Z"⟩
abbrev cJ1_indexOf_4cfef : ByteArray := prog_27_method_22_code
def yJ1_indexOf_4cfef : MethodName := ⟨RJ1, "indexOf", "([BIII)I"⟩
abbrev cJ1_indexOfChar_4cfef : ByteArray := prog_27_method_23_code
def yJ1_indexOfChar_4cfef : MethodName := ⟨RJ1, "indexOfChar", "([BIII)I"⟩
def RJ2 : String := "java/lang/StringUTF16"
def TJ2 : u_T := fun k => match k with
  | _ => ("", "", "", false)
def tyJ2 : Nat → FieldType := fun k => match k with
  | _ => .int
abbrev wsJ20 : List Cond := u_ws RJ2 TJ2 0
theorem nmJ2 : ∀ a, a < 0 → ∀ b, b < 0 → a ≠ b → (TJ2 a).2.1 ≠ (TJ2 b).2.1 := by decide +kernel
theorem tyJ2_ok : ∀ k, k < 0 → parseFieldDescriptor (TJ2 k).2.2.1 = some (tyJ2 k) := by decide +kernel
abbrev cJ2_getChar_3b067 : ByteArray := prog_28_method_5_code
def yJ2_getChar_3b067 : MethodName := ⟨RJ2, "getChar", "([BI)C"⟩
abbrev cJ2_length_9d52b : ByteArray := prog_28_method_6_code
def yJ2_length_9d52b : MethodName := ⟨RJ2, "length", "([B)I"⟩
abbrev cJ2_indexOf_4cfef : ByteArray := prog_28_method_40_code
def yJ2_indexOf_4cfef : MethodName := ⟨RJ2, "indexOf", "([BIII)I"⟩
abbrev cJ2_indexOfChar_4cfef : ByteArray := prog_28_method_47_code
def yJ2_indexOfChar_4cfef : MethodName := ⟨RJ2, "indexOfChar", "([BIII)I"⟩
abbrev cJ2_indexOfCharUnsafe_4cfef : ByteArray := prog_28_method_48_code
def yJ2_indexOfCharUnsafe_4cfef : MethodName := ⟨RJ2, "indexOfCharUnsafe", "([BIII)I"⟩
abbrev cJ2_indexOfSupplementary_4cfef : ByteArray := prog_28_method_49_code
def yJ2_indexOfSupplementary_4cfef : MethodName := ⟨RJ2, "indexOfSupplementary", "([BIII)I"⟩
abbrev cJ2_checkBoundsBeginEnd_d044e : ByteArray := prog_28_method_93_code
def yJ2_checkBoundsBeginEnd_d044e : MethodName := ⟨RJ2, "checkBoundsBeginEnd", "(II[B)V"⟩
def RJ10 : String := "java/lang/System"
def TJ10 : u_T := fun k => match k with
  | _ => ("", "", "", false)
def tyJ10 : Nat → FieldType := fun k => match k with
  | _ => .int
abbrev wsJ100 : List Cond := u_ws RJ10 TJ10 0
theorem nmJ10 : ∀ a, a < 0 → ∀ b, b < 0 → a ≠ b → (TJ10 a).2.1 ≠ (TJ10 b).2.1 := by decide +kernel
theorem tyJ10_ok : ∀ k, k < 0 → parseFieldDescriptor (TJ10 k).2.2.1 = some (tyJ10 k) := by decide +kernel
def RJxfd54e : String := "java/lang/constant/Constable"
def TJxfd54e : u_T := fun k => match k with
  | _ => ("", "", "", false)
def tyJxfd54e : Nat → FieldType := fun k => match k with
  | _ => .int
abbrev wsJxfd54e0 : List Cond := u_ws RJxfd54e TJxfd54e 0
theorem nmJxfd54e : ∀ a, a < 0 → ∀ b, b < 0 → a ≠ b → (TJxfd54e a).2.1 ≠ (TJxfd54e b).2.1 := by decide +kernel
theorem tyJxfd54e_ok : ∀ k, k < 0 → parseFieldDescriptor (TJxfd54e k).2.2.1 = some (tyJxfd54e k) := by decide +kernel
def RJx3cf43 : String := "java/lang/constant/ConstantDesc"
def TJx3cf43 : u_T := fun k => match k with
  | _ => ("", "", "", false)
def tyJx3cf43 : Nat → FieldType := fun k => match k with
  | _ => .int
abbrev wsJx3cf430 : List Cond := u_ws RJx3cf43 TJx3cf43 0
theorem nmJx3cf43 : ∀ a, a < 0 → ∀ b, b < 0 → a ≠ b → (TJx3cf43 a).2.1 ≠ (TJx3cf43 b).2.1 := by decide +kernel
theorem tyJx3cf43_ok : ∀ k, k < 0 → parseFieldDescriptor (TJx3cf43 k).2.2.1 = some (tyJx3cf43 k) := by decide +kernel
def RJ7 : String := "java/util/Arrays"
def TJ7 : u_T := fun k => match k with
  | _ => ("", "", "", false)
def tyJ7 : Nat → FieldType := fun k => match k with
  | _ => .int
abbrev wsJ70 : List Cond := u_ws RJ7 TJ7 0
theorem nmJ7 : ∀ a, a < 0 → ∀ b, b < 0 → a ≠ b → (TJ7 a).2.1 ≠ (TJ7 b).2.1 := by decide +kernel
theorem tyJ7_ok : ∀ k, k < 0 → parseFieldDescriptor (TJ7 k).2.2.1 = some (tyJ7 k) := by decide +kernel
abbrev cJ7_fill_53178 : ByteArray := prog_34_method_103_code
def yJ7_fill_53178 : MethodName := ⟨RJ7, "fill", "([II)V"⟩
def RJ3 : String := "jdk/internal/util/Preconditions"
def TJ3 : u_T := fun k => match k with
  | _ => ("", "", "", false)
def tyJ3 : Nat → FieldType := fun k => match k with
  | _ => .int
abbrev wsJ30 : List Cond := u_ws RJ3 TJ3 0
theorem nmJ3 : ∀ a, a < 0 → ∀ b, b < 0 → a ≠ b → (TJ3 a).2.1 ≠ (TJ3 b).2.1 := by decide +kernel
theorem tyJ3_ok : ∀ k, k < 0 → parseFieldDescriptor (TJ3 k).2.2.1 = some (tyJ3 k) := by decide +kernel
abbrev cJ3_checkFromToIndex_8c36e : ByteArray := prog_36_method_12_code
def yJ3_checkFromToIndex_8c36e : MethodName := ⟨RJ3, "checkFromToIndex", "(IIILjava/util/function/BiFunction;)I"⟩
def RL : String := "StablepairBureauLaw"
abbrev cL_add : ByteArray := method_3_code
def yL_add : MethodName := ⟨RL, "add", "(LStablepairBureau;C[J)I"⟩
abbrev cL_many : ByteArray := method_4_code
def yL_many : MethodName := ⟨RL, "many", "(LStablepairBureau;C[J)I"⟩
abbrev cL_places : ByteArray := method_5_code
def yL_places : MethodName := ⟨RL, "places", "(LStablepairBureau;II[J)I"⟩
abbrev cL_least : ByteArray := method_6_code
def yL_least : MethodName := ⟨RL, "least", "(LStablepairBureau;II[J)I"⟩
abbrev cL_type : ByteArray := method_7_code
def yL_type : MethodName := ⟨RL, "type", "(LStablepairBureau;C[J)I"⟩
abbrev cL_signAt : ByteArray := method_8_code
def yL_signAt : MethodName := ⟨RL, "signAt", "(LStablepairBureau;I[J)I"⟩
abbrev cL_read : ByteArray := method_9_code
def yL_read : MethodName := ⟨RL, "read", "(LStablepairBureau;CI[J)I"⟩
abbrev cL_length : ByteArray := method_10_code
def yL_length : MethodName := ⟨RL, "length", "(LStablepairBureau;CI[J)I"⟩
abbrev cL_wish : ByteArray := method_11_code
def yL_wish : MethodName := ⟨RL, "wish", "(LStablepairBureau;CII[J)I"⟩
abbrev cL_rank : ByteArray := method_12_code
def yL_rank : MethodName := ⟨RL, "rank", "(LStablepairBureau;CII[J)I"⟩
abbrev cL_cut : ByteArray := method_13_code
def yL_cut : MethodName := ⟨RL, "cut", "(LStablepairBureau;CII[J)I"⟩
abbrev cL_begin : ByteArray := method_14_code
def yL_begin : MethodName := ⟨RL, "begin", "(LStablepairBureau;C[J)I"⟩
abbrev cL_offer : ByteArray := method_15_code
def yL_offer : MethodName := ⟨RL, "offer", "(LStablepairBureau;I[J)I"⟩
abbrev cL_open : ByteArray := method_16_code
def yL_open : MethodName := ⟨RL, "open", "(LStablepairBureau;[J)I"⟩
abbrev cL_run : ByteArray := method_17_code
def yL_run : MethodName := ⟨RL, "run", "(LStablepairBureau;C[J)I"⟩
abbrev cL_offerAt : ByteArray := method_18_code
def yL_offerAt : MethodName := ⟨RL, "offerAt", "(LStablepairBureau;I[J)I"⟩
abbrev cL_resultAt : ByteArray := method_19_code
def yL_resultAt : MethodName := ⟨RL, "resultAt", "(LStablepairBureau;I[J)I"⟩
abbrev cL_pair : ByteArray := method_20_code
def yL_pair : MethodName := ⟨RL, "pair", "(LStablepairBureau;II[J)I"⟩
abbrev cL_part : ByteArray := method_21_code
def yL_part : MethodName := ⟨RL, "part", "(LStablepairBureau;I[J)I"⟩
abbrev cL_houseOf : ByteArray := method_22_code
def yL_houseOf : MethodName := ⟨RL, "houseOf", "(LStablepairBureau;I[J)I"⟩
abbrev cL_held : ByteArray := method_23_code
def yL_held : MethodName := ⟨RL, "held", "(LStablepairBureau;I[J)I"⟩
abbrev cL_heldAt : ByteArray := method_24_code
def yL_heldAt : MethodName := ⟨RL, "heldAt", "(LStablepairBureau;II[J)I"⟩
abbrev cL_blockAt : ByteArray := method_25_code
def yL_blockAt : MethodName := ⟨RL, "blockAt", "(LStablepairBureau;I[J)I"⟩
abbrev cL_filled : ByteArray := method_26_code
def yL_filled : MethodName := ⟨RL, "filled", "(LStablepairBureau;I[J)I"⟩
abbrev cL_lacks : ByteArray := method_27_code
def yL_lacks : MethodName := ⟨RL, "lacks", "(LStablepairBureau;I[J)I"⟩
abbrev cL_rotations : ByteArray := method_28_code
def yL_rotations : MethodName := ⟨RL, "rotations", "(LStablepairBureau;[J)I"⟩
abbrev cL_rotationLength : ByteArray := method_29_code
def yL_rotationLength : MethodName := ⟨RL, "rotationLength", "(LStablepairBureau;I[J)I"⟩
abbrev cL_rotationAt : ByteArray := method_30_code
def yL_rotationAt : MethodName := ⟨RL, "rotationAt", "(LStablepairBureau;II[J)I"⟩
abbrev cL_turn : ByteArray := method_31_code
def yL_turn : MethodName := ⟨RL, "turn", "(LStablepairBureau;I[J)I"⟩
abbrev cL_stables : ByteArray := method_32_code
def yL_stables : MethodName := ⟨RL, "stables", "(LStablepairBureau;[J)I"⟩
abbrev cL_stableAt : ByteArray := method_33_code
def yL_stableAt : MethodName := ⟨RL, "stableAt", "(LStablepairBureau;I[J)I"⟩
abbrev cL_fairest : ByteArray := method_34_code
def yL_fairest : MethodName := ⟨RL, "fairest", "(LStablepairBureau;C[J)I"⟩
abbrev cL_gain : ByteArray := method_35_code
def yL_gain : MethodName := ⟨RL, "gain", "(LStablepairBureau;I[J)I"⟩
abbrev cL_cutFor : ByteArray := method_36_code
def yL_cutFor : MethodName := ⟨RL, "cutFor", "(LStablepairBureau;I[J)I"⟩
abbrev cL_lie : ByteArray := method_37_code
def yL_lie : MethodName := ⟨RL, "lie", "(LStablepairBureau;I[J)I"⟩
abbrev cL_without : ByteArray := method_38_code
def yL_without : MethodName := ⟨RL, "without", "(LStablepairBureau;I[J)I"⟩
abbrev cL_withoutHouse : ByteArray := method_39_code
def yL_withoutHouse : MethodName := ⟨RL, "withoutHouse", "(LStablepairBureau;I[J)I"⟩
abbrev cL_rooms : ByteArray := method_40_code
def yL_rooms : MethodName := ⟨RL, "rooms", "(LStablepairBureau;[J)I"⟩
abbrev cL_roomOf : ByteArray := method_41_code
def yL_roomOf : MethodName := ⟨RL, "roomOf", "(LStablepairBureau;I[J)I"⟩
abbrev cL_trade : ByteArray := method_42_code
def yL_trade : MethodName := ⟨RL, "trade", "(LStablepairBureau;[J)I"⟩
abbrev cL_tradeOf : ByteArray := method_43_code
def yL_tradeOf : MethodName := ⟨RL, "tradeOf", "(LStablepairBureau;I[J)I"⟩
abbrev cL_tradeRound : ByteArray := method_44_code
def yL_tradeRound : MethodName := ⟨RL, "tradeRound", "(LStablepairBureau;I[J)I"⟩
abbrev cL_give : ByteArray := method_45_code
def yL_give : MethodName := ⟨RL, "give", "(LStablepairBureau;IIZ[J)I"⟩
abbrev cL_helped : ByteArray := method_46_code
def yL_helped : MethodName := ⟨RL, "helped", "(LStablepairBureau;I[J)I"⟩
abbrev cL_meanRank : ByteArray := method_47_code
def yL_meanRank : MethodName := ⟨RL, "meanRank", "(LStablepairBureau;C[D)I"⟩
abbrev cL_pairedShare : ByteArray := method_48_code
def yL_pairedShare : MethodName := ⟨RL, "pairedShare", "(LStablepairBureau;[D)I"⟩
abbrev cL_law : ByteArray := code
def yL_law : MethodName := ⟨RL, "law", "([I)Z"⟩
def wsL_law0_r1 : List Cond := [Cond.classLink RL 8 RX10, Cond.instantiable RX10 15, Cond.initialized RX10, Cond.classLink RL 170 RX11, Cond.instantiable RX11 22, Cond.initialized RX11, Cond.arrayClass .long, Cond.arrayClass .double, Cond.methodLink RL 169 yX10_init, Cond.instanceMethod yX10_init, Cond.code yX10_init cX10_init 1 none, Cond.methodLink RX10 1 objectInit, Cond.instanceMethod objectInit, Cond.code objectInit ⟨#[0xb1]⟩ 1 none, Cond.classLink RX10 7 RX3, Cond.instantiable RX3 3, Cond.initialized RX3, Cond.fieldLink RX10 10 "StablepairBureau" "market" "LStablepairBureau$Market;", Cond.classLink RX10 16 RX2, Cond.instantiable RX2 4, Cond.initialized RX2, Cond.fieldLink RX10 19 "StablepairBureau" "mates" "LStablepairBureau$Lists;", Cond.arrayClass .int, Cond.fieldLink RX10 23 "StablepairBureau" "leasts" "[I"]
def wsL_law0_r2 : List Cond := [Cond.classLink RX10 27 RX8, Cond.instantiable RX8 4, Cond.initialized RX8, Cond.fieldLink RX10 30 "StablepairBureau" "text" "LStablepairBureau$Text;", Cond.classLink RX10 34 RX5, Cond.instantiable RX5 2, Cond.initialized RX5, Cond.fieldLink RX10 37 "StablepairBureau" "pairing" "LStablepairBureau$Pairing;", Cond.classLink RX10 41 RX4, Cond.instantiable RX4 6, Cond.initialized RX4, Cond.fieldLink RX10 44 "StablepairBureau" "offering" "LStablepairBureau$Offers;", Cond.classLink RX10 48 RX0, Cond.instantiable RX0 2, Cond.initialized RX0, Cond.fieldLink RX10 51 "StablepairBureau" "gifts" "LStablepairBureau$Gifts;", Cond.fieldLink RX10 55 "StablepairBureau" "trialMarket" "LStablepairBureau$Market;", Cond.fieldLink RX10 58 "StablepairBureau" "trial" "LStablepairBureau$Pairing;", Cond.fieldLink RX10 61 "StablepairBureau" "otherTrial" "LStablepairBureau$Pairing;", Cond.fieldLink RX10 64 "StablepairBureau" "trialOffers" "LStablepairBureau$Offers;", Cond.classLink RX10 67 RX7, Cond.instantiable RX7 6, Cond.initialized RX7, Cond.fieldLink RX10 70 "StablepairBureau" "rings" "LStablepairBureau$Rotations;"]
def wsL_law0_r3 : List Cond := [Cond.classLink RX10 74 RX1, Cond.instantiable RX1 3, Cond.initialized RX1, Cond.fieldLink RX10 77 "StablepairBureau" "lattice" "LStablepairBureau$Lattice;", Cond.classLink RX10 81 RX6, Cond.instantiable RX6 3, Cond.initialized RX6, Cond.fieldLink RX10 84 "StablepairBureau" "roommates" "LStablepairBureau$Rooms;", Cond.classLink RX10 88 RX9, Cond.instantiable RX9 3, Cond.initialized RX9, Cond.fieldLink RX10 91 "StablepairBureau" "exchange" "LStablepairBureau$Trade;", Cond.methodLink RX10 9 yX3_init, Cond.instanceMethod yX3_init, Cond.code yX3_init cX3_init 2 none, Cond.methodLink RX3 3 objectInit, Cond.classLink RX3 9 RX2, Cond.fieldLink RX3 12 "StablepairBureau$Market" "persons" "LStablepairBureau$Lists;", Cond.fieldLink RX3 18 "StablepairBureau$Market" "houses" "LStablepairBureau$Lists;", Cond.fieldLink RX3 21 "StablepairBureau$Market" "places" "[I", Cond.instanceMethod yX2_init, Cond.code yX2_init cX2_init 1 none, Cond.methodLink RX2 3 objectInit, Cond.fieldLink RX2 9 "StablepairBureau$Lists" "sizes" "[I"]
def wsL_law0_r4 : List Cond := [Cond.fieldLink RX2 15 "StablepairBureau$Lists" "wished" "[I", Cond.fieldLink RX2 18 "StablepairBureau$Lists" "spots" "[I", Cond.instanceMethod yX8_init, Cond.code yX8_init cX8_init 1 none, Cond.methodLink RX8 3 objectInit, Cond.arrayClass .char, Cond.fieldLink RX8 9 "StablepairBureau$Text" "signs" "[C", Cond.fieldLink RX8 15 "StablepairBureau$Text" "numbers" "[I", Cond.methodLink RX10 36 yX5_init, Cond.instanceMethod yX5_init, Cond.code yX5_init cX5_init 2 none, Cond.methodLink RX5 3 objectInit, Cond.fieldLink RX5 9 "StablepairBureau$Pairing" "homes" "[I", Cond.fieldLink RX5 15 "StablepairBureau$Pairing" "loads" "[I", Cond.instanceMethod yX4_init, Cond.code yX4_init cX4_init 1 none, Cond.methodLink RX4 3 objectInit, Cond.fieldLink RX4 9 "StablepairBureau$Offers" "next" "[I", Cond.fieldLink RX4 15 "StablepairBureau$Offers" "asked" "[I", Cond.fieldLink RX4 18 "StablepairBureau$Offers" "outcomes" "[C", Cond.instanceMethod yX0_init, Cond.code yX0_init cX0_init 1 none, Cond.methodLink RX0 3 objectInit, Cond.arrayClass .boolean]
def wsL_law0_r5 : List Cond := [Cond.fieldLink RX0 9 "StablepairBureau$Gifts" "can" "[Z", Cond.fieldLink RX0 15 "StablepairBureau$Gifts" "best" "[I", Cond.instanceMethod yX7_init, Cond.code yX7_init cX7_init 1 none, Cond.methodLink RX7 3 objectInit, Cond.fieldLink RX7 9 "StablepairBureau$Rotations" "nextHouses" "[I", Cond.fieldLink RX7 15 "StablepairBureau$Rotations" "nextPersons" "[I", Cond.fieldLink RX7 18 "StablepairBureau$Rotations" "bars" "[I", Cond.fieldLink RX7 21 "StablepairBureau$Rotations" "lowest" "[I", Cond.fieldLink RX7 24 "StablepairBureau$Rotations" "sizes" "[I", Cond.instanceMethod yX1_init, Cond.code yX1_init cX1_init 1 none, Cond.methodLink RX1 3 objectInit, Cond.fieldLink RX1 9 "StablepairBureau$Lattice" "codes" "[J", Cond.classLink RX1 15 RX5, Cond.fieldLink RX1 18 "StablepairBureau$Lattice" "visited" "LStablepairBureau$Pairing;", Cond.methodLink RX1 17 yX5_init, Cond.instanceMethod yX6_init, Cond.code yX6_init cX6_init 1 none, Cond.methodLink RX6 3 objectInit, Cond.fieldLink RX6 9 "StablepairBureau$Rooms" "partners" "[I", Cond.fieldLink RX6 15 "StablepairBureau$Rooms" "first" "[I", Cond.instanceMethod yX9_init, Cond.code yX9_init cX9_init 1 none]
def wsL_law0_r6 : List Cond := [Cond.methodLink RX9 3 objectInit, Cond.fieldLink RX9 9 "StablepairBureau$Trade" "targets" "[I", Cond.fieldLink RX9 15 "StablepairBureau$Trade" "rounds" "[I", Cond.methodLink RL 172 yX11_init, Cond.instanceMethod yX11_init, Cond.code yX11_init cX11_init 1 none, Cond.methodLink RX11 1 objectInit, Cond.fieldLink RX11 7 "StablepairBureauModel" "many" "[I", Cond.classLink RX11 13 "[[I", Cond.fieldLink RX11 15 "StablepairBureauModel" "lists" "[[I", Cond.fieldLink RX11 18 "StablepairBureauModel" "lengths" "[I", Cond.fieldLink RX11 21 "StablepairBureauModel" "places" "[I", Cond.fieldLink RX11 24 "StablepairBureauModel" "leasts" "[I", Cond.fieldLink RX11 31 "StablepairBureauModel" "houses" "[I", Cond.fieldLink RX11 34 "StablepairBureauModel" "offering" "C", Cond.fieldLink RX11 38 "StablepairBureauModel" "nexts" "[I", Cond.fieldLink RX11 41 "StablepairBureauModel" "made" "[I", Cond.fieldLink RX11 44 "StablepairBureauModel" "results" "[C", Cond.classLink RX11 48 "[[Z", Cond.fieldLink RX11 50 "StablepairBureauModel" "can" "[[Z", Cond.fieldLink RX11 53 "StablepairBureauModel" "text" "[C", Cond.classLink RX11 56 "[I", Cond.fieldLink RX11 57 "StablepairBureauModel" "stables" "[[I", Cond.fieldLink RX11 60 "StablepairBureauModel" "rounds" "[I"]
def wsL_law0_r7 : List Cond := [Cond.fieldLink RX11 63 "StablepairBureauModel" "traded" "[I", Cond.methodLink RX11 27 yX11_alone, Cond.static yX11_alone, Cond.code yX11_alone cX11_alone 2 (some (.array .int)), Cond.methodLink RL 173 yL_add, Cond.static yL_add, Cond.initialized RL, Cond.codeWith yL_add cL_add 4 (some .int) [(0, 9, 12, 13), (0, 9, 15, 15)], Cond.classLink RL 13 "java/lang/IllegalArgumentException", Cond.methodLink RL 7 yX10_add, Cond.instanceMethod yX10_add, Cond.selects RX10 yX10_add yX10_add, Cond.code yX10_add cX10_add 4 (some .int), Cond.classLink RX10 103 "java/lang/IllegalStateException", Cond.initialized "java/lang/IllegalStateException", Cond.methodLink RX10 95 yX10_needSide, Cond.instanceMethod yX10_needSide, Cond.selects RX10 yX10_needSide yX10_needSide, Cond.code yX10_needSide cX10_needSide 2 (some (.object "StablepairBureau$Lists")), Cond.classLink RX10 120 "java/lang/IllegalArgumentException", Cond.initialized "java/lang/IllegalArgumentException", Cond.methodLink RX10 110 yX2_grow, Cond.instanceMethod yX2_grow, Cond.selects RX2 yX2_grow yX2_grow]
def wsL_law0_r8 : List Cond := [Cond.code yX2_grow cX2_grow 1 none, Cond.fieldLink RX2 21 "StablepairBureau$Lists" "count" "I", Cond.methodLink RX10 113 yX10_letAllGo, Cond.instanceMethod yX10_letAllGo, Cond.selects RX10 yX10_letAllGo yX10_letAllGo, Cond.code yX10_letAllGo cX10_letAllGo 1 none, Cond.methodLink RX10 201 yX5_clear, Cond.instanceMethod yX5_clear, Cond.selects RX5 yX5_clear yX5_clear, Cond.code yX5_clear cX5_clear 1 none, Cond.methodLink RX5 18 yJ7_fill_53178, Cond.static yJ7_fill_53178, Cond.initialized RJ7, Cond.code yJ7_fill_53178 cJ7_fill_53178 4 none, Cond.methodLink RX10 275 yX4_end, Cond.instanceMethod yX4_end, Cond.selects RX4 yX4_end yX4_end, Cond.code yX4_end cX4_end 1 none, Cond.fieldLink RX4 22 "StablepairBureau$Offers" "begun" "Z", Cond.methodLink RL 178 yX11_add, Cond.instanceMethod yX11_add, Cond.selects RX11 yX11_add yX11_add, Cond.code yX11_add cX11_add 4 (some .int), Cond.methodLink RX11 124 yX11_sideOf]
def wsL_law0_r9 : List Cond := [Cond.static yX11_sideOf, Cond.code yX11_sideOf cX11_sideOf 1 (some .int), Cond.methodLink RX11 72 yJ0_indexOf_0f7a4, Cond.instanceMethod yJ0_indexOf_0f7a4, Cond.selects RJ0 yJ0_indexOf_0f7a4 yJ0_indexOf_0f7a4, Cond.initialized RJ0, Cond.code yJ0_indexOf_0f7a4 cJ0_indexOf_0f7a4 2 (some .int), Cond.methodLink RJ0 633 yJ0_indexOf_7cf53, Cond.instanceMethod yJ0_indexOf_7cf53, Cond.selects RJ0 yJ0_indexOf_7cf53 yJ0_indexOf_7cf53, Cond.code yJ0_indexOf_7cf53 cJ0_indexOf_7cf53 3 (some .int), Cond.fieldLink RJ0 9 "java/lang/String" "value" "[B", Cond.methodLink RJ0 492 yJ0_isLatin1_aae02, Cond.instanceMethod yJ0_isLatin1_aae02, Cond.selects RJ0 yJ0_isLatin1_aae02 yJ0_isLatin1_aae02, Cond.code yJ0_isLatin1_aae02 cJ0_isLatin1_aae02 1 (some .boolean), Cond.fieldLink RJ0 38 "java/lang/String" "COMPACT_STRINGS" "Z", Cond.fieldLink RJ0 15 "java/lang/String" "coder" "B", Cond.methodLink RJ0 505 yJ0_length_8abf5, Cond.instanceMethod yJ0_length_8abf5, Cond.selects RJ0 yJ0_length_8abf5 yJ0_length_8abf5, Cond.code yJ0_length_8abf5 cJ0_length_8abf5 1 (some .int), Cond.methodLink RJ0 335 yJ0_coder_7d493, Cond.instanceMethod yJ0_coder_7d493]
def wsL_law0_r10 : List Cond := [Cond.selects RJ0 yJ0_coder_7d493 yJ0_coder_7d493, Cond.code yJ0_coder_7d493 cJ0_coder_7d493 1 (some .byte), Cond.methodLink RJ0 637 yJ1_indexOf_4cfef, Cond.static yJ1_indexOf_4cfef, Cond.initialized RJ1, Cond.code yJ1_indexOf_4cfef cJ1_indexOf_4cfef 4 (some .int), Cond.methodLink RJ1 92 Lib.Math.max.name, Cond.static Lib.Math.max.name, Cond.initialized "java/lang/Math", Cond.code Lib.Math.max.name Lib.Math.max.code 2 (some .int), Cond.methodLink RJ1 38 Lib.Math.min.name, Cond.static Lib.Math.min.name, Cond.code Lib.Math.min.name Lib.Math.min.code 2 (some .int), Cond.methodLink RJ1 88 yJ1_canEncode_9a6ad, Cond.static yJ1_canEncode_9a6ad, Cond.code yJ1_canEncode_9a6ad cJ1_canEncode_9a6ad 1 (some .boolean), Cond.methodLink RJ1 95 yJ1_indexOfChar_4cfef, Cond.static yJ1_indexOfChar_4cfef, Cond.code yJ1_indexOfChar_4cfef cJ1_indexOfChar_4cfef 6 (some .int), Cond.methodLink RJ0 640 yJ2_indexOf_4cfef, Cond.static yJ2_indexOf_4cfef, Cond.initialized RJ2, Cond.code yJ2_indexOf_4cfef cJ2_indexOf_4cfef 4 (some .int), Cond.methodLink RJ2 224 Lib.Math.max.name]
def wsL_law0_r11 : List Cond := [Cond.methodLink RJ2 183 Lib.Math.min.name, Cond.constant RJ2 227 (65536), Cond.methodLink RJ2 228 yJ2_indexOfChar_4cfef, Cond.static yJ2_indexOfChar_4cfef, Cond.code yJ2_indexOfChar_4cfef cJ2_indexOfChar_4cfef 4 (some .int), Cond.methodLink RJ2 96 yJ2_checkBoundsBeginEnd_d044e, Cond.static yJ2_checkBoundsBeginEnd_d044e, Cond.code yJ2_checkBoundsBeginEnd_d044e cJ2_checkBoundsBeginEnd_d044e 3 none, Cond.methodLink RJ2 48 yJ2_length_9d52b, Cond.static yJ2_length_9d52b, Cond.code yJ2_length_9d52b cJ2_length_9d52b 1 (some .int), Cond.methodLink RJ2 241 yJ0_checkBoundsBeginEnd_23922, Cond.static yJ0_checkBoundsBeginEnd_23922, Cond.code yJ0_checkBoundsBeginEnd_23922 cJ0_checkBoundsBeginEnd_23922 3 none, Cond.fieldLink RJ0 1053 "jdk/internal/util/Preconditions" "SIOOBE_FORMATTER" "Ljava/util/function/BiFunction;", Cond.methodLink RJ0 1062 yJ3_checkFromToIndex_8c36e, Cond.static yJ3_checkFromToIndex_8c36e, Cond.initialized RJ3, Cond.code yJ3_checkFromToIndex_8c36e cJ3_checkFromToIndex_8c36e 4 (some .int), Cond.methodLink RJ2 244 yJ2_indexOfCharUnsafe_4cfef, Cond.static yJ2_indexOfCharUnsafe_4cfef, Cond.code yJ2_indexOfCharUnsafe_4cfef cJ2_indexOfCharUnsafe_4cfef 5 (some .int), Cond.methodLink RJ2 71 yJ2_getChar_3b067, Cond.static yJ2_getChar_3b067]
def wsL_law0_r12 : List Cond := [Cond.code yJ2_getChar_3b067 cJ2_getChar_3b067 2 (some .char), Cond.fieldLink RJ2 44 "java/lang/StringUTF16" "$assertionsDisabled" "Z", Cond.fieldLink RJ2 59 "java/lang/StringUTF16" "HI_BYTE_SHIFT" "I", Cond.fieldLink RJ2 63 "java/lang/StringUTF16" "LO_BYTE_SHIFT" "I", Cond.methodLink RJ2 232 yJ2_indexOfSupplementary_4cfef, Cond.static yJ2_indexOfSupplementary_4cfef, Cond.code yJ2_indexOfSupplementary_4cfef cJ2_indexOfSupplementary_4cfef 7 (some .int), Cond.methodLink RJ2 164 yJ11_isValidCodePoint_9a6ad, Cond.static yJ11_isValidCodePoint_9a6ad, Cond.initialized RJ11, Cond.code yJ11_isValidCodePoint_9a6ad cJ11_isValidCodePoint_9a6ad 2 (some .boolean), Cond.methodLink RJ2 157 yJ11_highSurrogate_5068e, Cond.static yJ11_highSurrogate_5068e, Cond.code yJ11_highSurrogate_5068e cJ11_highSurrogate_5068e 1 (some .char), Cond.constant RJ11 110 (55232), Cond.methodLink RJ2 161 yJ11_lowSurrogate_5068e, Cond.static yJ11_lowSurrogate_5068e, Cond.code yJ11_lowSurrogate_5068e cJ11_lowSurrogate_5068e 1 (some .char), Cond.constant RJ11 76 (56320), Cond.methodLink RX11 128 yX11_fails, Cond.instanceMethod yX11_fails, Cond.selects RX11 yX11_fails yX11_fails, Cond.code yX11_fails cX11_fails 4 (some .boolean), Cond.fieldLink RX11 66 "StablepairBureauModel" "thrown" "I"]
def wsL_law0_r13 : List Cond := [Cond.methodLink RX11 132 yX11_letsGo, Cond.instanceMethod yX11_letsGo, Cond.selects RX11 yX11_letsGo yX11_letsGo, Cond.code yX11_letsGo cX11_letsGo 1 none, Cond.methodLink RL 179 yX11_thrown, Cond.instanceMethod yX11_thrown, Cond.selects RX11 yX11_thrown yX11_thrown, Cond.code yX11_thrown cX11_thrown 1 (some .int), Cond.methodLink RL 182 yL_many, Cond.static yL_many, Cond.codeWith yL_many cL_many 4 (some .int) [(0, 9, 12, 13)], Cond.methodLink RL 17 yX10_many, Cond.instanceMethod yX10_many, Cond.selects RX10 yX10_many yX10_many, Cond.code yX10_many cX10_many 2 (some .int), Cond.methodLink RL 184 yX11_many, Cond.instanceMethod yX11_many, Cond.selects RX11 yX11_many yX11_many, Cond.code yX11_many cX11_many 2 (some .int), Cond.methodLink RL 185 yL_places, Cond.static yL_places, Cond.codeWith yL_places cL_places 5 (some .int) [(0, 10, 13, 24), (0, 10, 17, 13)], Cond.classLink RL 24 "java/util/NoSuchElementException", Cond.methodLink RL 20 yX10_places]
def wsL_law0_r14 : List Cond := [Cond.instanceMethod yX10_places, Cond.selects RX10 yX10_places yX10_places, Cond.code yX10_places cX10_places 4 (some .int), Cond.methodLink RX10 116 yX10_needHouse, Cond.instanceMethod yX10_needHouse, Cond.selects RX10 yX10_needHouse yX10_needHouse, Cond.code yX10_needHouse cX10_needHouse 2 none, Cond.classLink RX10 220 "java/util/NoSuchElementException", Cond.initialized "java/util/NoSuchElementException", Cond.methodLink RX10 216 yX2_has, Cond.instanceMethod yX2_has, Cond.selects RX2 yX2_has yX2_has, Cond.code yX2_has cX2_has 2 (some .boolean), Cond.methodLink RX10 125 yX3_placesOf, Cond.instanceMethod yX3_placesOf, Cond.selects RX3 yX3_placesOf yX3_placesOf, Cond.code yX3_placesOf cX3_placesOf 2 (some .int), Cond.methodLink RX10 129 yX3_setPlaces, Cond.instanceMethod yX3_setPlaces, Cond.selects RX3 yX3_setPlaces yX3_setPlaces, Cond.code yX3_setPlaces cX3_setPlaces 3 none, Cond.methodLink RL 188 yX11_places, Cond.instanceMethod yX11_places, Cond.selects RX11 yX11_places yX11_places]
def wsL_law0_r15 : List Cond := [Cond.code yX11_places cX11_places 4 (some .int), Cond.methodLink RX11 135 yX11_isHouse, Cond.instanceMethod yX11_isHouse, Cond.selects RX11 yX11_isHouse yX11_isHouse, Cond.code yX11_isHouse cX11_isHouse 2 (some .boolean), Cond.methodLink RX11 78 yX11_in, Cond.static yX11_in, Cond.code yX11_in cX11_in 3 (some .boolean), Cond.methodLink RL 189 yL_least, Cond.static yL_least, Cond.codeWith yL_least cL_least 5 (some .int) [(0, 10, 13, 24), (0, 10, 17, 13)], Cond.methodLink RL 26 yX10_least, Cond.instanceMethod yX10_least, Cond.selects RX10 yX10_least yX10_least, Cond.code yX10_least cX10_least 4 (some .int), Cond.methodLink RX10 135 yX10_leastOf, Cond.instanceMethod yX10_leastOf, Cond.selects RX10 yX10_leastOf yX10_leastOf, Cond.code yX10_leastOf cX10_leastOf 2 (some .int), Cond.methodLink RL 191 yX11_least, Cond.instanceMethod yX11_least, Cond.selects RX11 yX11_least yX11_least, Cond.code yX11_least cX11_least 4 (some .int), Cond.methodLink RL 192 yL_type]
def wsL_law0_r16 : List Cond := [Cond.static yL_type, Cond.codeWith yL_type cL_type 4 (some .int) [(0, 9, 12, 13), (0, 9, 15, 15)], Cond.methodLink RL 29 yX10_type, Cond.instanceMethod yX10_type, Cond.selects RX10 yX10_type yX10_type, Cond.code yX10_type cX10_type 2 (some .int), Cond.methodLink RX10 145 yX8_append, Cond.instanceMethod yX8_append, Cond.selects RX8 yX8_append yX8_append, Cond.code yX8_append cX8_append 2 none, Cond.fieldLink RX8 19 "StablepairBureau$Text" "size" "I", Cond.methodLink RL 194 yX11_type, Cond.instanceMethod yX11_type, Cond.selects RX11 yX11_type yX11_type, Cond.code yX11_type cX11_type 2 (some .int), Cond.fieldLink RX11 139 "StablepairBureauModel" "typed" "I", Cond.methodLink RL 195 yX10_erase, Cond.instanceMethod yX10_erase, Cond.selects RX10 yX10_erase yX10_erase, Cond.code yX10_erase cX10_erase 2 (some .int), Cond.methodLink RX10 149 yX8_clear, Cond.instanceMethod yX8_clear, Cond.selects RX8 yX8_clear yX8_clear, Cond.code yX8_clear cX8_clear 1 none]
def wsL_law0_r17 : List Cond := [Cond.methodLink RL 198 yX11_erase, Cond.instanceMethod yX11_erase, Cond.selects RX11 yX11_erase yX11_erase, Cond.code yX11_erase cX11_erase 2 (some .int), Cond.methodLink RL 199 yL_signAt, Cond.static yL_signAt, Cond.codeWith yL_signAt cL_signAt 4 (some .int) [(0, 9, 12, 36)], Cond.classLink RL 36 "java/lang/IndexOutOfBoundsException", Cond.methodLink RL 32 yX10_signAt, Cond.instanceMethod yX10_signAt, Cond.selects RX10 yX10_signAt yX10_signAt, Cond.code yX10_signAt cX10_signAt 2 (some .char), Cond.classLink RX10 152 "java/lang/IndexOutOfBoundsException", Cond.initialized "java/lang/IndexOutOfBoundsException", Cond.methodLink RX10 157 yX8_sign, Cond.instanceMethod yX8_sign, Cond.selects RX8 yX8_sign yX8_sign, Cond.code yX8_sign cX8_sign 2 (some .char), Cond.methodLink RL 202 yX11_signAt, Cond.instanceMethod yX11_signAt, Cond.selects RX11 yX11_signAt yX11_signAt, Cond.code yX11_signAt cX11_signAt 2 (some .char), Cond.methodLink RL 203 yL_read, Cond.static yL_read]
def wsL_law0_r18 : List Cond := [Cond.codeWith yL_read cL_read 5 (some .int) [(0, 10, 13, 13), (0, 10, 17, 24)], Cond.methodLink RL 38 yX10_read, Cond.instanceMethod yX10_read, Cond.selects RX10 yX10_read yX10_read, Cond.code yX10_read cX10_read 5 (some .int), Cond.methodLink RX10 161 yX10_needOne, Cond.instanceMethod yX10_needOne, Cond.selects RX10 yX10_needOne yX10_needOne, Cond.code yX10_needOne cX10_needOne 4 (some (.object "StablepairBureau$Lists")), Cond.methodLink RX10 165 yX10_otherSideOf, Cond.instanceMethod yX10_otherSideOf, Cond.selects RX10 yX10_otherSideOf yX10_otherSideOf, Cond.code yX10_otherSideOf cX10_otherSideOf 2 (some (.object "StablepairBureau$Lists")), Cond.methodLink RX10 168 yX8_parse, Cond.instanceMethod yX8_parse, Cond.selects RX8 yX8_parse yX8_parse, Cond.code yX8_parse cX8_parse 7 (some .int), Cond.fieldLink RX8 27 "StablepairBureau$Text" "found" "I", Cond.methodLink RX8 34 Lib.Math.min.name, Cond.methodLink RX8 30 yX8_isDigit, Cond.instanceMethod yX8_isDigit, Cond.selects RX8 yX8_isDigit yX8_isDigit, Cond.code yX8_isDigit cX8_isDigit 2 (some .boolean), Cond.methodLink RX8 23 yX8_sign]
def wsL_law0_r19 : List Cond := [Cond.methodLink RX8 40 yX8_isFound, Cond.instanceMethod yX8_isFound, Cond.selects RX8 yX8_isFound yX8_isFound, Cond.code yX8_isFound cX8_isFound 3 (some .boolean), Cond.methodLink RX8 43 yX8_insert, Cond.instanceMethod yX8_insert, Cond.selects RX8 yX8_insert yX8_insert, Cond.code yX8_insert cX8_insert 4 none, Cond.methodLink RX10 178 yX2_replace, Cond.instanceMethod yX2_replace, Cond.selects RX2 yX2_replace yX2_replace, Cond.code yX2_replace cX2_replace 5 none, Cond.methodLink RX2 33 yX2_shorten, Cond.instanceMethod yX2_shorten, Cond.selects RX2 yX2_shorten yX2_shorten, Cond.code yX2_shorten cX2_shorten 5 none, Cond.methodLink RX2 25 yX2_has, Cond.methodLink RX2 29 yX2_wishAt, Cond.instanceMethod yX2_wishAt, Cond.selects RX2 yX2_wishAt yX2_wishAt, Cond.code yX2_wishAt cX2_wishAt 3 (some .int), Cond.methodLink RX2 37 yX2_append, Cond.instanceMethod yX2_append, Cond.selects RX2 yX2_append yX2_append]
def wsL_law0_r20 : List Cond := [Cond.code yX2_append cX2_append 4 none, Cond.methodLink RX2 40 yX2_sizeOf, Cond.instanceMethod yX2_sizeOf, Cond.selects RX2 yX2_sizeOf yX2_sizeOf, Cond.code yX2_sizeOf cX2_sizeOf 2 (some .int), Cond.methodLink RX10 182 yX2_sizeOf, Cond.methodLink RL 206 yX11_read, Cond.instanceMethod yX11_read, Cond.selects RX11 yX11_read yX11_read, Cond.code yX11_read cX11_read 7 (some .int), Cond.fieldLink RX11 142 "StablepairBureauModel" "readMany" "I", Cond.methodLink RX11 155 yX11_isOne, Cond.instanceMethod yX11_isOne, Cond.selects RX11 yX11_isOne yX11_isOne, Cond.code yX11_isOne cX11_isOne 3 (some .boolean), Cond.methodLink RX11 158 yX11_reads, Cond.instanceMethod yX11_reads, Cond.selects RX11 yX11_reads yX11_reads, Cond.code yX11_reads cX11_reads 10 (some .int), Cond.methodLink RX11 145 Lib.Math.min.name, Cond.methodLink RX11 151 yX11_stands, Cond.static yX11_stands, Cond.code yX11_stands cX11_stands 5 (some .boolean), Cond.methodLink RL 207 yL_length]
def wsL_law0_r21 : List Cond := [Cond.static yL_length, Cond.codeWith yL_length cL_length 5 (some .int) [(0, 10, 13, 13), (0, 10, 17, 24)], Cond.methodLink RL 42 yX10_length, Cond.instanceMethod yX10_length, Cond.selects RX10 yX10_length yX10_length, Cond.code yX10_length cX10_length 3 (some .int), Cond.methodLink RL 209 yX11_length, Cond.instanceMethod yX11_length, Cond.selects RX11 yX11_length yX11_length, Cond.code yX11_length cX11_length 4 (some .int), Cond.methodLink RL 210 yL_wish, Cond.static yL_wish, Cond.codeWith yL_wish cL_wish 6 (some .int) [(0, 12, 15, 13), (0, 12, 19, 24), (0, 12, 23, 36)], Cond.methodLink RL 45 yX10_wish, Cond.instanceMethod yX10_wish, Cond.selects RX10 yX10_wish yX10_wish, Cond.code yX10_wish cX10_wish 5 (some .int), Cond.methodLink RX10 187 yX2_wishAt, Cond.methodLink RL 213 yX11_wish, Cond.instanceMethod yX11_wish, Cond.selects RX11 yX11_wish yX11_wish, Cond.code yX11_wish cX11_wish 6 (some .int), Cond.methodLink RL 214 yL_rank, Cond.static yL_rank]
def wsL_law0_r22 : List Cond := [Cond.codeWith yL_rank cL_rank 6 (some .int) [(0, 12, 15, 13), (0, 12, 19, 24)], Cond.methodLink RL 49 yX10_rank, Cond.instanceMethod yX10_rank, Cond.selects RX10 yX10_rank yX10_rank, Cond.code yX10_rank cX10_rank 4 (some .int), Cond.methodLink RX10 190 yX2_placeOf, Cond.instanceMethod yX2_placeOf, Cond.selects RX2 yX2_placeOf yX2_placeOf, Cond.code yX2_placeOf cX2_placeOf 3 (some .int), Cond.methodLink RL 216 yX11_rank, Cond.instanceMethod yX11_rank, Cond.selects RX11 yX11_rank yX11_rank, Cond.code yX11_rank cX11_rank 5 (some .int), Cond.methodLink RX11 82 yX11_placeOf, Cond.instanceMethod yX11_placeOf, Cond.selects RX11 yX11_placeOf yX11_placeOf, Cond.code yX11_placeOf cX11_placeOf 5 (some .int), Cond.methodLink RL 217 yL_cut, Cond.static yL_cut, Cond.codeWith yL_cut cL_cut 6 (some .int) [(0, 12, 15, 13), (0, 12, 19, 24), (0, 12, 23, 36)], Cond.methodLink RL 52 yX10_cut, Cond.instanceMethod yX10_cut, Cond.selects RX10 yX10_cut yX10_cut, Cond.code yX10_cut cX10_cut 6 (some .int)]
def wsL_law0_r23 : List Cond := [Cond.methodLink RX10 195 yX2_shorten, Cond.methodLink RL 219 yX11_cut, Cond.instanceMethod yX11_cut, Cond.selects RX11 yX11_cut yX11_cut, Cond.code yX11_cut cX11_cut 8 (some .int), Cond.methodLink RL 220 yL_begin, Cond.static yL_begin, Cond.codeWith yL_begin cL_begin 4 (some .int) [(0, 9, 12, 13)], Cond.methodLink RL 55 yX10_begin, Cond.instanceMethod yX10_begin, Cond.selects RX10 yX10_begin yX10_begin, Cond.code yX10_begin cX10_begin 2 (some .int), Cond.methodLink RX10 198 yX10_needOfferSide, Cond.instanceMethod yX10_needOfferSide, Cond.selects RX10 yX10_needOfferSide yX10_needOfferSide, Cond.code yX10_needOfferSide cX10_needOfferSide 2 none, Cond.methodLink RX10 202 yX4_start, Cond.instanceMethod yX4_start, Cond.selects RX4 yX4_start yX4_start, Cond.code yX4_start cX4_start 2 none, Cond.fieldLink RX4 26 "StablepairBureau$Offers" "byHouses" "Z", Cond.fieldLink RX4 29 "StablepairBureau$Offers" "made" "I", Cond.methodLink RX4 33 yJ7_fill_53178, Cond.methodLink RX10 205 yX4_countAble]
def wsL_law0_r24 : List Cond := [Cond.instanceMethod yX4_countAble, Cond.selects RX4 yX4_countAble yX4_countAble, Cond.code yX4_countAble cX4_countAble 5 (some .int), Cond.methodLink RX4 67 yX4_canMake, Cond.instanceMethod yX4_canMake, Cond.selects RX4 yX4_canMake yX4_canMake, Cond.code yX4_canMake cX4_canMake 4 (some .boolean), Cond.methodLink RX4 48 yX4_offerers, Cond.instanceMethod yX4_offerers, Cond.selects RX4 yX4_offerers yX4_offerers, Cond.code yX4_offerers cX4_offerers 2 (some (.object "StablepairBureau$Lists")), Cond.methodLink RX4 52 yX2_sizeOf, Cond.methodLink RX4 58 yX5_isFull, Cond.instanceMethod yX5_isFull, Cond.selects RX5 yX5_isFull yX5_isFull, Cond.code yX5_isFull cX5_isFull 3 (some .boolean), Cond.methodLink RX5 30 yX5_loadOf, Cond.instanceMethod yX5_loadOf, Cond.selects RX5 yX5_loadOf yX5_loadOf, Cond.code yX5_loadOf cX5_loadOf 2 (some .int), Cond.methodLink RX5 34 yX3_placesOf, Cond.methodLink RX4 64 yX5_homeOf, Cond.instanceMethod yX5_homeOf, Cond.selects RX5 yX5_homeOf yX5_homeOf]
def wsL_law0_r25 : List Cond := [Cond.code yX5_homeOf cX5_homeOf 2 (some .int), Cond.methodLink RL 222 yX11_begin, Cond.instanceMethod yX11_begin, Cond.selects RX11 yX11_begin yX11_begin, Cond.code yX11_begin cX11_begin 2 (some .int), Cond.methodLink RX11 164 yX11_begins, Cond.instanceMethod yX11_begins, Cond.selects RX11 yX11_begins yX11_begins, Cond.code yX11_begins cX11_begins 2 none, Cond.fieldLink RX11 162 "StablepairBureauModel" "offers" "I", Cond.methodLink RX11 168 yX11_openNow, Cond.instanceMethod yX11_openNow, Cond.selects RX11 yX11_openNow yX11_openNow, Cond.code yX11_openNow cX11_openNow 4 (some .int), Cond.methodLink RX11 112 yX11_canOffer, Cond.instanceMethod yX11_canOffer, Cond.selects RX11 yX11_canOffer yX11_canOffer, Cond.code yX11_canOffer cX11_canOffer 6 (some .boolean), Cond.methodLink RX11 98 yX11_isFull, Cond.instanceMethod yX11_isFull, Cond.selects RX11 yX11_isFull yX11_isFull, Cond.code yX11_isFull cX11_isFull 3 (some .boolean), Cond.methodLink RX11 86 yX11_heldBy, Cond.instanceMethod yX11_heldBy]
def wsL_law0_r26 : List Cond := [Cond.selects RX11 yX11_heldBy yX11_heldBy, Cond.code yX11_heldBy cX11_heldBy 5 (some .int), Cond.methodLink RL 223 yL_offer, Cond.static yL_offer, Cond.codeWith yL_offer cL_offer 4 (some .int) [(0, 9, 12, 15), (0, 9, 15, 24), (0, 9, 18, 61)], Cond.classLink RL 15 "java/lang/IllegalStateException", Cond.methodLink RL 58 yX10_offer, Cond.instanceMethod yX10_offer, Cond.selects RX10 yX10_offer yX10_offer, Cond.code yX10_offer cX10_offer 2 (some .char), Cond.classLink RX10 229 "java/lang/UnsupportedOperationException", Cond.initialized "java/lang/UnsupportedOperationException", Cond.methodLink RX10 209 yX10_needOffers, Cond.instanceMethod yX10_needOffers, Cond.selects RX10 yX10_needOffers yX10_needOffers, Cond.code yX10_needOffers cX10_needOffers 1 none, Cond.methodLink RX10 212 yX4_offerers, Cond.methodLink RX10 225 yX4_canMake, Cond.methodLink RX10 234 yX4_make, Cond.instanceMethod yX4_make, Cond.selects RX4 yX4_make yX4_make, Cond.code yX4_make cX4_make 6 (some .char), Cond.methodLink RX4 86 yX2_wishAt, Cond.methodLink RX4 90 yX4_askPerson]
def wsL_law0_r27 : List Cond := [Cond.static yX4_askPerson, Cond.code yX4_askPerson cX4_askPerson 6 (some .char), Cond.methodLink RX4 97 yX2_placeOf, Cond.methodLink RX4 107 yX5_settle, Cond.instanceMethod yX5_settle, Cond.selects RX5 yX5_settle yX5_settle, Cond.code yX5_settle cX5_settle 3 none, Cond.methodLink RX5 39 yX5_leave, Cond.instanceMethod yX5_leave, Cond.selects RX5 yX5_leave yX5_leave, Cond.code yX5_leave cX5_leave 3 (some .int), Cond.methodLink RX4 94 yX4_askHouse, Cond.static yX4_askHouse, Cond.code yX4_askHouse cX4_askHouse 6 (some .char), Cond.methodLink RX4 100 yX5_barOf, Cond.instanceMethod yX5_barOf, Cond.selects RX5 yX5_barOf yX5_barOf, Cond.code yX5_barOf cX5_barOf 5 (some .int), Cond.methodLink RX5 61 Lib.Math.max.name, Cond.methodLink RX5 58 yX2_placeOf, Cond.methodLink RX4 104 yX5_leave, Cond.methodLink RL 225 yX11_offer, Cond.instanceMethod yX11_offer, Cond.selects RX11 yX11_offer yX11_offer]
def wsL_law0_r28 : List Cond := [Cond.code yX11_offer cX11_offer 4 (some .char), Cond.methodLink RX11 172 yX11_makes, Cond.instanceMethod yX11_makes, Cond.selects RX11 yX11_makes yX11_makes, Cond.code yX11_makes cX11_makes 3 (some .char), Cond.fieldLink RX11 109 "StablepairBureauModel" "asked" "I", Cond.methodLink RX11 116 yX11_offers, Cond.instanceMethod yX11_offers, Cond.selects RX11 yX11_offers yX11_offers, Cond.code yX11_offers cX11_offers 9 (some .char), Cond.methodLink RX11 90 yX11_areOn, Cond.instanceMethod yX11_areOn, Cond.selects RX11 yX11_areOn yX11_areOn, Cond.code yX11_areOn cX11_areOn 3 (some .boolean), Cond.methodLink RX11 94 yX11_isAhead, Cond.instanceMethod yX11_isAhead, Cond.selects RX11 yX11_isAhead yX11_isAhead, Cond.code yX11_isAhead cX11_isAhead 5 (some .boolean), Cond.methodLink RX11 102 yX11_lastOf, Cond.instanceMethod yX11_lastOf, Cond.selects RX11 yX11_lastOf yX11_lastOf, Cond.code yX11_lastOf cX11_lastOf 6 (some .int), Cond.methodLink RL 226 yL_open, Cond.static yL_open]
def wsL_law0_r29 : List Cond := [Cond.codeWith yL_open cL_open 3 (some .int) [(0, 8, 11, 15)], Cond.methodLink RL 63 yX10_open, Cond.instanceMethod yX10_open, Cond.selects RX10 yX10_open yX10_open, Cond.code yX10_open cX10_open 1 (some .int), Cond.methodLink RL 229 yX11_open, Cond.instanceMethod yX11_open, Cond.selects RX11 yX11_open yX11_open, Cond.code yX11_open cX11_open 1 (some .int), Cond.methodLink RL 230 yL_run, Cond.static yL_run, Cond.codeWith yL_run cL_run 4 (some .int) [(0, 9, 12, 13)], Cond.methodLink RL 67 yX10_run, Cond.instanceMethod yX10_run, Cond.selects RX10 yX10_run yX10_run, Cond.code yX10_run cX10_run 2 (some .int), Cond.methodLink RX10 238 yX4_makeAll, Cond.instanceMethod yX4_makeAll, Cond.selects RX4 yX4_makeAll yX4_makeAll, Cond.code yX4_makeAll cX4_makeAll 7 none, Cond.methodLink RX4 71 yX5_clear, Cond.methodLink RX4 74 yX4_start, Cond.methodLink RX4 78 yX4_chooseAble, Cond.instanceMethod yX4_chooseAble]
def wsL_law0_r30 : List Cond := [Cond.selects RX4 yX4_chooseAble yX4_chooseAble, Cond.code yX4_chooseAble cX4_chooseAble 6 (some .int), Cond.methodLink RX4 82 yX4_make, Cond.methodLink RL 232 yX11_run, Cond.instanceMethod yX11_run, Cond.selects RX11 yX11_run yX11_run, Cond.code yX11_run cX11_run 4 (some .int), Cond.methodLink RL 233 yX10_offers, Cond.instanceMethod yX10_offers, Cond.selects RX10 yX10_offers yX10_offers, Cond.code yX10_offers cX10_offers 1 (some .int), Cond.methodLink RL 236 yX11_offers_, Cond.instanceMethod yX11_offers_, Cond.selects RX11 yX11_offers_ yX11_offers_, Cond.code yX11_offers_ cX11_offers_ 1 (some .int), Cond.methodLink RL 237 yL_offerAt, Cond.static yL_offerAt, Cond.codeWith yL_offerAt cL_offerAt 4 (some .int) [(0, 9, 12, 36)], Cond.methodLink RL 70 yX10_offerAt, Cond.instanceMethod yX10_offerAt, Cond.selects RX10 yX10_offerAt yX10_offerAt, Cond.code yX10_offerAt cX10_offerAt 2 (some .int), Cond.methodLink RX10 245 yX10_needOfferIndex, Cond.instanceMethod yX10_needOfferIndex]
def wsL_law0_r31 : List Cond := [Cond.selects RX10 yX10_needOfferIndex yX10_needOfferIndex, Cond.code yX10_needOfferIndex cX10_needOfferIndex 2 none, Cond.methodLink RX10 248 yX4_askedAt, Cond.instanceMethod yX4_askedAt, Cond.selects RX4 yX4_askedAt yX4_askedAt, Cond.code yX4_askedAt cX4_askedAt 2 (some .int), Cond.methodLink RL 239 yX11_offerAt, Cond.instanceMethod yX11_offerAt, Cond.selects RX11 yX11_offerAt yX11_offerAt, Cond.code yX11_offerAt cX11_offerAt 2 (some .int), Cond.methodLink RL 240 yL_resultAt, Cond.static yL_resultAt, Cond.codeWith yL_resultAt cL_resultAt 4 (some .int) [(0, 9, 12, 36)], Cond.methodLink RL 74 yX10_resultAt, Cond.instanceMethod yX10_resultAt, Cond.selects RX10 yX10_resultAt yX10_resultAt, Cond.code yX10_resultAt cX10_resultAt 2 (some .char), Cond.methodLink RX10 251 yX4_outcomeAt, Cond.instanceMethod yX4_outcomeAt, Cond.selects RX4 yX4_outcomeAt yX4_outcomeAt, Cond.code yX4_outcomeAt cX4_outcomeAt 2 (some .char), Cond.methodLink RL 242 yX11_resultAt, Cond.instanceMethod yX11_resultAt, Cond.selects RX11 yX11_resultAt yX11_resultAt]
def wsL_law0_r32 : List Cond := [Cond.code yX11_resultAt cX11_resultAt 2 (some .char), Cond.methodLink RL 243 yL_pair, Cond.static yL_pair, Cond.codeWith yL_pair cL_pair 5 (some .int) [(0, 10, 13, 24), (0, 10, 17, 13), (0, 10, 21, 61)], Cond.methodLink RL 77 yX10_pair, Cond.instanceMethod yX10_pair, Cond.selects RX10 yX10_pair yX10_pair, Cond.code yX10_pair cX10_pair 3 (some .int), Cond.methodLink RX10 254 yX10_needPerson, Cond.instanceMethod yX10_needPerson, Cond.selects RX10 yX10_needPerson yX10_needPerson, Cond.code yX10_needPerson cX10_needPerson 2 none, Cond.methodLink RX10 257 yX3_areMutual, Cond.instanceMethod yX3_areMutual, Cond.selects RX3 yX3_areMutual yX3_areMutual, Cond.code yX3_areMutual cX3_areMutual 3 (some .boolean), Cond.methodLink RX3 25 yX2_placeOf, Cond.methodLink RX10 263 yX5_homeOf, Cond.methodLink RX10 266 yX5_isFull, Cond.methodLink RX10 272 yX5_settle, Cond.methodLink RX10 278 yX5_loadOf, Cond.methodLink RL 245 yX11_pair, Cond.instanceMethod yX11_pair, Cond.selects RX11 yX11_pair yX11_pair]
def wsL_law0_r33 : List Cond := [Cond.code yX11_pair cX11_pair 5 (some .int), Cond.methodLink RX11 176 yX11_isPerson, Cond.instanceMethod yX11_isPerson, Cond.selects RX11 yX11_isPerson yX11_isPerson, Cond.code yX11_isPerson cX11_isPerson 2 (some .boolean), Cond.methodLink RL 246 yL_part, Cond.static yL_part, Cond.codeWith yL_part cL_part 4 (some .int) [(0, 9, 12, 24)], Cond.methodLink RL 80 yX10_part, Cond.instanceMethod yX10_part, Cond.selects RX10 yX10_part yX10_part, Cond.code yX10_part cX10_part 3 (some .int), Cond.methodLink RX10 281 yX5_leave, Cond.methodLink RL 248 yX11_part, Cond.instanceMethod yX11_part, Cond.selects RX11 yX11_part yX11_part, Cond.code yX11_part cX11_part 3 (some .int), Cond.methodLink RL 249 yL_houseOf, Cond.static yL_houseOf, Cond.codeWith yL_houseOf cL_houseOf 4 (some .int) [(0, 9, 12, 24)], Cond.methodLink RL 83 yX10_houseOf, Cond.instanceMethod yX10_houseOf, Cond.selects RX10 yX10_houseOf yX10_houseOf, Cond.code yX10_houseOf cX10_houseOf 2 (some .int)]
def wsL_law0_r34 : List Cond := [Cond.methodLink RL 251 yX11_houseOf, Cond.instanceMethod yX11_houseOf, Cond.selects RX11 yX11_houseOf yX11_houseOf, Cond.code yX11_houseOf cX11_houseOf 2 (some .int), Cond.methodLink RL 252 yL_held, Cond.static yL_held, Cond.codeWith yL_held cL_held 4 (some .int) [(0, 9, 12, 24)], Cond.methodLink RL 86 yX10_held, Cond.instanceMethod yX10_held, Cond.selects RX10 yX10_held yX10_held, Cond.code yX10_held cX10_held 2 (some .int), Cond.methodLink RL 254 yX11_held, Cond.instanceMethod yX11_held, Cond.selects RX11 yX11_held yX11_held, Cond.code yX11_held cX11_held 2 (some .int), Cond.methodLink RL 255 yL_heldAt, Cond.static yL_heldAt, Cond.codeWith yL_heldAt cL_heldAt 5 (some .int) [(0, 10, 13, 24), (0, 10, 17, 36)], Cond.methodLink RL 89 yX10_heldAt, Cond.instanceMethod yX10_heldAt, Cond.selects RX10 yX10_heldAt yX10_heldAt, Cond.code yX10_heldAt cX10_heldAt 3 (some .int), Cond.methodLink RX10 286 yX5_tenant, Cond.instanceMethod yX5_tenant]
def wsL_law0_r35 : List Cond := [Cond.selects RX5 yX5_tenant yX5_tenant, Cond.code yX5_tenant cX5_tenant 7 (some .int), Cond.methodLink RX5 46 yX2_sizeOf, Cond.methodLink RX5 51 yX2_wishAt, Cond.methodLink RX5 55 yX5_homeOf, Cond.methodLink RL 257 yX11_heldAt, Cond.instanceMethod yX11_heldAt, Cond.selects RX11 yX11_heldAt yX11_heldAt, Cond.code yX11_heldAt cX11_heldAt 6 (some .int), Cond.methodLink RL 258 yX10_blocks, Cond.instanceMethod yX10_blocks, Cond.selects RX10 yX10_blocks yX10_blocks, Cond.code yX10_blocks cX10_blocks 1 (some .int), Cond.methodLink RX10 290 yX5_countBlocks, Cond.instanceMethod yX5_countBlocks, Cond.selects RX5 yX5_countBlocks yX5_countBlocks, Cond.code yX5_countBlocks cX5_countBlocks 4 (some .int), Cond.methodLink RX5 77 yX5_isBlock, Cond.instanceMethod yX5_isBlock, Cond.selects RX5 yX5_isBlock yX5_isBlock, Cond.code yX5_isBlock cX5_isBlock 6 (some .boolean), Cond.methodLink RX5 66 yX3_areMutual, Cond.methodLink RX5 73 yX5_barOf, Cond.methodLink RL 261 yX11_blocks_]
def wsL_law0_r36 : List Cond := [Cond.instanceMethod yX11_blocks_, Cond.selects RX11 yX11_blocks_ yX11_blocks_, Cond.code yX11_blocks_ cX11_blocks_ 1 (some .int), Cond.methodLink RX11 179 yX11_blocksOf, Cond.instanceMethod yX11_blocksOf, Cond.selects RX11 yX11_blocksOf yX11_blocksOf, Cond.code yX11_blocksOf cX11_blocksOf 5 (some .int), Cond.methodLink RX11 105 yX11_blocks, Cond.instanceMethod yX11_blocks, Cond.selects RX11 yX11_blocks yX11_blocks, Cond.code yX11_blocks cX11_blocks 5 (some .boolean), Cond.methodLink RL 262 yL_blockAt, Cond.static yL_blockAt, Cond.codeWith yL_blockAt cL_blockAt 4 (some .int) [(0, 9, 12, 36)], Cond.methodLink RL 92 yX10_blockAt, Cond.instanceMethod yX10_blockAt, Cond.selects RX10 yX10_blockAt yX10_blockAt, Cond.code yX10_blockAt cX10_blockAt 3 (some .int), Cond.methodLink RX10 294 yX5_blockNumber, Cond.instanceMethod yX5_blockNumber, Cond.selects RX5 yX5_blockNumber yX5_blockNumber, Cond.code yX5_blockNumber cX5_blockNumber 5 (some .int), Cond.methodLink RL 264 yX11_blockAt, Cond.instanceMethod yX11_blockAt]
def wsL_law0_r37 : List Cond := [Cond.selects RX11 yX11_blockAt yX11_blockAt, Cond.code yX11_blockAt cX11_blockAt 4 (some .int), Cond.methodLink RL 265 yX10_isStable, Cond.instanceMethod yX10_isStable, Cond.selects RX10 yX10_isStable yX10_isStable, Cond.code yX10_isStable cX10_isStable 1 (some .boolean), Cond.methodLink RX10 300 yX5_isCalm, Cond.instanceMethod yX5_isCalm, Cond.selects RX5 yX5_isCalm yX5_isCalm, Cond.code yX5_isCalm cX5_isCalm 3 (some .boolean), Cond.methodLink RL 269 yX11_isStable, Cond.instanceMethod yX11_isStable, Cond.selects RX11 yX11_isStable yX11_isStable, Cond.code yX11_isStable cX11_isStable 1 (some .boolean), Cond.methodLink RL 270 yL_filled, Cond.static yL_filled, Cond.codeWith yL_filled cL_filled 4 (some .int) [(0, 9, 12, 24)], Cond.methodLink RL 95 yX10_filled, Cond.instanceMethod yX10_filled, Cond.selects RX10 yX10_filled yX10_filled, Cond.code yX10_filled cX10_filled 2 (some .int), Cond.methodLink RX10 304 yX10_stableLoad, Cond.instanceMethod yX10_stableLoad, Cond.selects RX10 yX10_stableLoad yX10_stableLoad]
def wsL_law0_r38 : List Cond := [Cond.code yX10_stableLoad cX10_stableLoad 2 (some .int), Cond.methodLink RL 272 yX11_filled, Cond.instanceMethod yX11_filled, Cond.selects RX11 yX11_filled yX11_filled, Cond.code yX11_filled cX11_filled 2 (some .int), Cond.methodLink RX11 183 yX11_byPersons, Cond.instanceMethod yX11_byPersons, Cond.selects RX11 yX11_byPersons yX11_byPersons, Cond.code yX11_byPersons cX11_byPersons 1 (some (.array .int)), Cond.methodLink RX11 120 yX11_all, Cond.instanceMethod yX11_all, Cond.selects RX11 yX11_all yX11_all, Cond.code yX11_all cX11_all 10 (some (.array .int)), Cond.methodLink RL 273 yL_lacks, Cond.static yL_lacks, Cond.codeWith yL_lacks cL_lacks 4 (some .int) [(0, 9, 12, 24)], Cond.methodLink RL 98 yX10_lacks, Cond.instanceMethod yX10_lacks, Cond.selects RX10 yX10_lacks yX10_lacks, Cond.code yX10_lacks cX10_lacks 2 (some .int), Cond.methodLink RX10 307 Lib.Math.max.name, Cond.methodLink RL 275 yX11_lacks, Cond.instanceMethod yX11_lacks, Cond.selects RX11 yX11_lacks yX11_lacks]
def wsL_law0_r39 : List Cond := [Cond.code yX11_lacks cX11_lacks 2 (some .int), Cond.methodLink RX11 186 Lib.Math.max.name, Cond.methodLink RL 276 yL_rotations, Cond.static yL_rotations, Cond.codeWith yL_rotations cL_rotations 3 (some .int) [(0, 8, 11, 15)], Cond.methodLink RL 101 yX10_rotations, Cond.instanceMethod yX10_rotations, Cond.selects RX10 yX10_rotations yX10_rotations, Cond.code yX10_rotations cX10_rotations 1 (some .int), Cond.methodLink RX10 312 yX10_findRotations, Cond.instanceMethod yX10_findRotations, Cond.selects RX10 yX10_findRotations yX10_findRotations, Cond.code yX10_findRotations cX10_findRotations 1 none, Cond.methodLink RX10 329 yX7_find, Cond.instanceMethod yX7_find, Cond.selects RX7 yX7_find yX7_find, Cond.code yX7_find cX7_find 6 none, Cond.fieldLink RX7 53 "StablepairBureau$Rotations" "count" "I", Cond.methodLink RX7 27 yX5_barOf, Cond.methodLink RX7 33 yX5_homeOf, Cond.methodLink RX7 37 yX7_nextHouse, Cond.instanceMethod yX7_nextHouse, Cond.selects RX7 yX7_nextHouse yX7_nextHouse, Cond.code yX7_nextHouse cX7_nextHouse 7 (some .int)]
def wsL_law0_r40 : List Cond := [Cond.methodLink RX7 63 yX2_placeOf, Cond.methodLink RX7 66 yX2_sizeOf, Cond.methodLink RX7 47 yX2_wishAt, Cond.methodLink RX7 57 yX7_ringSize, Cond.instanceMethod yX7_ringSize, Cond.selects RX7 yX7_ringSize yX7_ringSize, Cond.code yX7_ringSize cX7_ringSize 4 (some .int), Cond.methodLink RX7 69 yX7_nextPerson, Cond.instanceMethod yX7_nextPerson, Cond.selects RX7 yX7_nextPerson yX7_nextPerson, Cond.code yX7_nextPerson cX7_nextPerson 2 (some .int), Cond.methodLink RL 278 yX11_rotations, Cond.instanceMethod yX11_rotations, Cond.selects RX11 yX11_rotations yX11_rotations, Cond.code yX11_rotations cX11_rotations 1 (some .int), Cond.methodLink RX11 205 yX11_ringsOf, Cond.instanceMethod yX11_ringsOf, Cond.selects RX11 yX11_ringsOf yX11_ringsOf, Cond.code yX11_ringsOf cX11_ringsOf 4 (some .int), Cond.methodLink RX11 195 yX11_ringOf, Cond.instanceMethod yX11_ringOf, Cond.selects RX11 yX11_ringOf yX11_ringOf, Cond.code yX11_ringOf cX11_ringOf 5 (some .int), Cond.methodLink RX11 192 yX11_nextPerson]
def wsL_law0_r41 : List Cond := [Cond.instanceMethod yX11_nextPerson, Cond.selects RX11 yX11_nextPerson yX11_nextPerson, Cond.code yX11_nextPerson cX11_nextPerson 4 (some .int), Cond.methodLink RX11 189 yX11_nextHouse, Cond.instanceMethod yX11_nextHouse, Cond.selects RX11 yX11_nextHouse yX11_nextHouse, Cond.code yX11_nextHouse cX11_nextHouse 6 (some .int), Cond.methodLink RL 279 yL_rotationLength, Cond.static yL_rotationLength, Cond.codeWith yL_rotationLength cL_rotationLength 4 (some .int) [(0, 9, 12, 15), (0, 9, 15, 36)], Cond.methodLink RL 104 yX10_rotationLength, Cond.instanceMethod yX10_rotationLength, Cond.selects RX10 yX10_rotationLength yX10_rotationLength, Cond.code yX10_rotationLength cX10_rotationLength 2 (some .int), Cond.methodLink RX10 316 yX10_needRotation, Cond.instanceMethod yX10_needRotation, Cond.selects RX10 yX10_needRotation yX10_needRotation, Cond.code yX10_needRotation cX10_needRotation 2 none, Cond.methodLink RX10 319 yX7_sizeOf, Cond.instanceMethod yX7_sizeOf, Cond.selects RX7 yX7_sizeOf yX7_sizeOf, Cond.code yX7_sizeOf cX7_sizeOf 2 (some .int), Cond.methodLink RL 281 yX11_rotationLength, Cond.instanceMethod yX11_rotationLength]
def wsL_law0_r42 : List Cond := [Cond.selects RX11 yX11_rotationLength yX11_rotationLength, Cond.code yX11_rotationLength cX11_rotationLength 3 (some .int), Cond.methodLink RX11 208 yX11_isRotation, Cond.instanceMethod yX11_isRotation, Cond.selects RX11 yX11_isRotation yX11_isRotation, Cond.code yX11_isRotation cX11_isRotation 2 (some .boolean), Cond.methodLink RX11 202 yX11_lowestOf, Cond.instanceMethod yX11_lowestOf, Cond.selects RX11 yX11_lowestOf yX11_lowestOf, Cond.code yX11_lowestOf cX11_lowestOf 5 (some .int), Cond.methodLink RL 282 yL_rotationAt, Cond.static yL_rotationAt, Cond.codeWith yL_rotationAt cL_rotationAt 5 (some .int) [(0, 10, 13, 15), (0, 10, 17, 36)], Cond.methodLink RL 107 yX10_rotationAt, Cond.instanceMethod yX10_rotationAt, Cond.selects RX10 yX10_rotationAt yX10_rotationAt, Cond.code yX10_rotationAt cX10_rotationAt 3 (some .int), Cond.methodLink RX10 322 yX7_memberAt, Cond.instanceMethod yX7_memberAt, Cond.selects RX7 yX7_memberAt yX7_memberAt, Cond.code yX7_memberAt cX7_memberAt 5 (some .int), Cond.methodLink RL 284 yX11_rotationAt, Cond.instanceMethod yX11_rotationAt, Cond.selects RX11 yX11_rotationAt yX11_rotationAt]
def wsL_law0_r43 : List Cond := [Cond.code yX11_rotationAt cX11_rotationAt 7 (some .int), Cond.methodLink RL 285 yL_turn, Cond.static yL_turn, Cond.codeWith yL_turn cL_turn 4 (some .int) [(0, 9, 12, 15), (0, 9, 15, 36)], Cond.methodLink RL 110 yX10_turn, Cond.instanceMethod yX10_turn, Cond.selects RX10 yX10_turn yX10_turn, Cond.code yX10_turn cX10_turn 2 (some .int), Cond.methodLink RX10 325 yX7_turnIn, Cond.instanceMethod yX7_turnIn, Cond.selects RX7 yX7_turnIn yX7_turnIn, Cond.code yX7_turnIn cX7_turnIn 5 none, Cond.methodLink RX7 72 yX7_sizeOf, Cond.methodLink RX7 73 yX7_memberAt, Cond.methodLink RX7 76 yX5_settle, Cond.methodLink RL 287 yX11_turn, Cond.instanceMethod yX11_turn, Cond.selects RX11 yX11_turn yX11_turn, Cond.code yX11_turn cX11_turn 3 (some .int), Cond.methodLink RX11 211 yX11_turned, Cond.instanceMethod yX11_turned, Cond.selects RX11 yX11_turned yX11_turned, Cond.code yX11_turned cX11_turned 7 (some (.array .int)), Cond.methodLink RX11 198 yX11_copied]
def wsL_law0_r44 : List Cond := [Cond.static yX11_copied, Cond.code yX11_copied cX11_copied 3 (some (.array .int)), Cond.methodLink RL 288 yL_stables, Cond.static yL_stables, Cond.codeWith yL_stables cL_stables 3 (some .int) [(0, 8, 11, 61)], Cond.classLink RL 61 "java/lang/UnsupportedOperationException", Cond.methodLink RL 113 yX10_stables, Cond.instanceMethod yX10_stables, Cond.selects RX10 yX10_stables yX10_stables, Cond.code yX10_stables cX10_stables 1 (some .int), Cond.methodLink RX10 333 yX10_gatherStables, Cond.instanceMethod yX10_gatherStables, Cond.selects RX10 yX10_gatherStables yX10_gatherStables, Cond.code yX10_gatherStables cX10_gatherStables 1 none, Cond.methodLink RX10 490 yX1_gather, Cond.instanceMethod yX1_gather, Cond.selects RX1 yX1_gather yX1_gather, Cond.code yX1_gather cX1_gather 7 none, Cond.fieldLink RX1 22 "StablepairBureau$Lattice" "count" "I", Cond.methodLink RX1 35 yX5_encode, Cond.instanceMethod yX5_encode, Cond.selects RX5 yX5_encode yX5_encode, Cond.code yX5_encode cX5_encode 5 (some .long), Cond.constantLong RX5 88 (11)]
def wsL_law0_r45 : List Cond := [Cond.methodLink RX1 39 yX1_note, Cond.instanceMethod yX1_note, Cond.selects RX1 yX1_note yX1_note, Cond.code yX1_note cX1_note 4 none, Cond.methodLink RX1 43 yX5_decode, Cond.instanceMethod yX5_decode, Cond.selects RX5 yX5_decode yX5_decode, Cond.code yX5_decode cX5_decode 7 none, Cond.methodLink RX5 90 yX5_clear, Cond.methodLink RX5 93 yX5_settle, Cond.methodLink RX1 47 yX7_find, Cond.methodLink RX1 54 yX7_turnIn, Cond.methodLink RX1 58 yX1_sort, Cond.instanceMethod yX1_sort, Cond.selects RX1 yX1_sort yX1_sort, Cond.code yX1_sort cX1_sort 5 none, Cond.methodLink RL 290 yX11_stables, Cond.instanceMethod yX11_stables, Cond.selects RX11 yX11_stables yX11_stables, Cond.code yX11_stables cX11_stables 1 (some .int), Cond.fieldLink RX11 215 "StablepairBureauModel" "stableMany" "I", Cond.methodLink RX11 226 yX11_areTooMany, Cond.instanceMethod yX11_areTooMany, Cond.selects RX11 yX11_areTooMany yX11_areTooMany]
def wsL_law0_r46 : List Cond := [Cond.code yX11_areTooMany cX11_areTooMany 5 (some .boolean), Cond.methodLink RX11 222 yX11_finds, Cond.instanceMethod yX11_finds, Cond.selects RX11 yX11_finds yX11_finds, Cond.code yX11_finds cX11_finds 5 none, Cond.methodLink RX11 218 yX11_compared, Cond.static yX11_compared, Cond.code yX11_compared cX11_compared 3 (some .int), Cond.methodLink RL 291 yL_stableAt, Cond.static yL_stableAt, Cond.codeWith yL_stableAt cL_stableAt 4 (some .int) [(0, 9, 12, 61), (0, 9, 15, 36)], Cond.methodLink RL 116 yX10_stableAt, Cond.instanceMethod yX10_stableAt, Cond.selects RX10 yX10_stableAt yX10_stableAt, Cond.code yX10_stableAt cX10_stableAt 2 (some .int), Cond.methodLink RX10 339 yX10_adopt, Cond.instanceMethod yX10_adopt, Cond.selects RX10 yX10_adopt yX10_adopt, Cond.code yX10_adopt cX10_adopt 2 none, Cond.methodLink RX10 348 yX1_codeAt, Cond.instanceMethod yX1_codeAt, Cond.selects RX1 yX1_codeAt yX1_codeAt, Cond.code yX1_codeAt cX1_codeAt 2 (some .long), Cond.methodLink RX10 355 yX5_decode]
def wsL_law0_r47 : List Cond := [Cond.methodLink RX10 342 yX5_countPaired, Cond.instanceMethod yX5_countPaired, Cond.selects RX5 yX5_countPaired yX5_countPaired, Cond.code yX5_countPaired cX5_countPaired 3 (some .int), Cond.methodLink RL 293 yX11_stableAt, Cond.instanceMethod yX11_stableAt, Cond.selects RX11 yX11_stableAt yX11_stableAt, Cond.code yX11_stableAt cX11_stableAt 3 (some .int), Cond.methodLink RX11 230 yX11_becomes, Cond.instanceMethod yX11_becomes, Cond.selects RX11 yX11_becomes yX11_becomes, Cond.code yX11_becomes cX11_becomes 4 (some .int), Cond.methodLink RL 294 yL_fairest, Cond.static yL_fairest, Cond.codeWith yL_fairest cL_fairest 4 (some .int) [(0, 9, 12, 13), (0, 9, 15, 61)], Cond.methodLink RL 119 yX10_fairest, Cond.instanceMethod yX10_fairest, Cond.selects RX10 yX10_fairest yX10_fairest, Cond.code yX10_fairest cX10_fairest 6 (some .int), Cond.methodLink RX10 359 yX5_placeSum, Cond.instanceMethod yX5_placeSum, Cond.selects RX5 yX5_placeSum yX5_placeSum, Cond.code yX5_placeSum cX5_placeSum 2 (some .int), Cond.methodLink RX5 81 yX5_personsPlaceSum]
def wsL_law0_r48 : List Cond := [Cond.instanceMethod yX5_personsPlaceSum, Cond.selects RX5 yX5_personsPlaceSum yX5_personsPlaceSum, Cond.code yX5_personsPlaceSum cX5_personsPlaceSum 4 (some .int), Cond.methodLink RX5 85 yX5_housesPlaceSum, Cond.instanceMethod yX5_housesPlaceSum, Cond.selects RX5 yX5_housesPlaceSum yX5_housesPlaceSum, Cond.code yX5_housesPlaceSum cX5_housesPlaceSum 4 (some .int), Cond.methodLink RX10 362 yX5_greatestPlace, Cond.instanceMethod yX5_greatestPlace, Cond.selects RX5 yX5_greatestPlace yX5_greatestPlace, Cond.code yX5_greatestPlace cX5_greatestPlace 5 (some .int), Cond.methodLink RL 296 yX11_fairest, Cond.instanceMethod yX11_fairest, Cond.selects RX11 yX11_fairest yX11_fairest, Cond.code yX11_fairest cX11_fairest 6 (some .int), Cond.methodLink RX11 233 yX11_worth, Cond.instanceMethod yX11_worth, Cond.selects RX11 yX11_worth yX11_worth, Cond.code yX11_worth cX11_worth 8 (some .int), Cond.methodLink RL 297 yL_gain, Cond.static yL_gain, Cond.codeWith yL_gain cL_gain 4 (some .int) [(0, 9, 12, 24), (0, 9, 15, 61)], Cond.methodLink RL 122 yX10_gain, Cond.instanceMethod yX10_gain]
def wsL_law0_r49 : List Cond := [Cond.selects RX10 yX10_gain yX10_gain, Cond.code yX10_gain cX10_gain 4 (some .int), Cond.methodLink RX10 365 yX10_needHouseOfOnePlace, Cond.instanceMethod yX10_needHouseOfOnePlace, Cond.selects RX10 yX10_needHouseOfOnePlace yX10_needHouseOfOnePlace, Cond.code yX10_needHouseOfOnePlace cX10_needHouseOfOnePlace 2 none, Cond.methodLink RX10 371 yX10_placeByCut, Cond.instanceMethod yX10_placeByCut, Cond.selects RX10 yX10_placeByCut yX10_placeByCut, Cond.code yX10_placeByCut cX10_placeByCut 3 (some .int), Cond.methodLink RX10 377 yX3_copyFrom, Cond.instanceMethod yX3_copyFrom, Cond.selects RX3 yX3_copyFrom yX3_copyFrom, Cond.code yX3_copyFrom cX3_copyFrom 2 none, Cond.methodLink RX3 33 arraycopyName, Cond.native arraycopyName, Cond.static arraycopyName, Cond.initialized "java/lang/System", Cond.methodLink RX3 29 yX2_copyFrom, Cond.instanceMethod yX2_copyFrom, Cond.selects RX2 yX2_copyFrom yX2_copyFrom, Cond.code yX2_copyFrom cX2_copyFrom 2 none, Cond.methodLink RX2 44 arraycopyName, Cond.methodLink RX10 374 yX10_betterPlace]
def wsL_law0_r50 : List Cond := [Cond.static yX10_betterPlace, Cond.code yX10_betterPlace cX10_betterPlace 2 (some .int), Cond.methodLink RX10 496 Lib.Math.min.name, Cond.methodLink RL 299 yX11_gain, Cond.instanceMethod yX11_gain, Cond.selects RX11 yX11_gain yX11_gain, Cond.code yX11_gain cX11_gain 3 (some .int), Cond.methodLink RX11 240 yX11_gainOf, Cond.instanceMethod yX11_gainOf, Cond.selects RX11 yX11_gainOf yX11_gainOf, Cond.code yX11_gainOf cX11_gainOf 5 (some .int), Cond.methodLink RX11 237 yX11_placeBy, Cond.instanceMethod yX11_placeBy, Cond.selects RX11 yX11_placeBy yX11_placeBy, Cond.code yX11_placeBy cX11_placeBy 6 (some .int), Cond.methodLink RL 300 yL_cutFor, Cond.static yL_cutFor, Cond.codeWith yL_cutFor cL_cutFor 4 (some .int) [(0, 9, 12, 24), (0, 9, 15, 61)], Cond.methodLink RL 125 yX10_cutFor, Cond.instanceMethod yX10_cutFor, Cond.selects RX10 yX10_cutFor yX10_cutFor, Cond.code yX10_cutFor cX10_cutFor 6 (some .int), Cond.methodLink RL 302 yX11_cutFor, Cond.instanceMethod yX11_cutFor]
def wsL_law0_r51 : List Cond := [Cond.selects RX11 yX11_cutFor yX11_cutFor, Cond.code yX11_cutFor cX11_cutFor 5 (some .int), Cond.methodLink RL 303 yL_lie, Cond.static yL_lie, Cond.codeWith yL_lie cL_lie 4 (some .int) [(0, 9, 12, 24)], Cond.methodLink RL 128 yX10_lie, Cond.instanceMethod yX10_lie, Cond.selects RX10 yX10_lie yX10_lie, Cond.code yX10_lie cX10_lie 5 (some .int), Cond.methodLink RL 305 yX11_lie, Cond.instanceMethod yX11_lie, Cond.selects RX11 yX11_lie yX11_lie, Cond.code yX11_lie cX11_lie 8 (some .int), Cond.methodLink RL 306 yL_without, Cond.static yL_without, Cond.codeWith yL_without cL_without 4 (some .int) [(0, 9, 12, 24)], Cond.methodLink RL 131 yX10_without, Cond.instanceMethod yX10_without, Cond.selects RX10 yX10_without yX10_without, Cond.code yX10_without cX10_without 2 (some .int), Cond.methodLink RX10 381 yX5_countMoved, Cond.instanceMethod yX5_countMoved, Cond.selects RX5 yX5_countMoved yX5_countMoved, Cond.code yX5_countMoved cX5_countMoved 4 (some .int)]
def wsL_law0_r52 : List Cond := [Cond.methodLink RL 308 yX11_without, Cond.instanceMethod yX11_without, Cond.selects RX11 yX11_without yX11_without, Cond.code yX11_without cX11_without 2 (some .int), Cond.methodLink RX11 243 yX11_differ, Cond.instanceMethod yX11_differ, Cond.selects RX11 yX11_differ yX11_differ, Cond.code yX11_differ cX11_differ 6 (some .int), Cond.methodLink RL 309 yL_withoutHouse, Cond.static yL_withoutHouse, Cond.codeWith yL_withoutHouse cL_withoutHouse 4 (some .int) [(0, 9, 12, 24)], Cond.methodLink RL 134 yX10_withoutHouse, Cond.instanceMethod yX10_withoutHouse, Cond.selects RX10 yX10_withoutHouse yX10_withoutHouse, Cond.code yX10_withoutHouse cX10_withoutHouse 2 (some .int), Cond.methodLink RL 311 yX11_withoutHouse, Cond.instanceMethod yX11_withoutHouse, Cond.selects RX11 yX11_withoutHouse yX11_withoutHouse, Cond.code yX11_withoutHouse cX11_withoutHouse 2 (some .int), Cond.methodLink RL 312 yL_rooms, Cond.static yL_rooms, Cond.codeWith yL_rooms cL_rooms 3 (some .int) [(0, 8, 11, 61)], Cond.methodLink RL 137 yX10_rooms, Cond.instanceMethod yX10_rooms]
def wsL_law0_r53 : List Cond := [Cond.selects RX10 yX10_rooms yX10_rooms, Cond.code yX10_rooms cX10_rooms 1 (some .int), Cond.methodLink RX10 385 yX10_needFewMates, Cond.instanceMethod yX10_needFewMates, Cond.selects RX10 yX10_needFewMates yX10_needFewMates, Cond.code yX10_needFewMates cX10_needFewMates 1 none, Cond.methodLink RX10 388 yX6_seek, Cond.instanceMethod yX6_seek, Cond.selects RX6 yX6_seek yX6_seek, Cond.code yX6_seek cX6_seek 2 none, Cond.fieldLink RX6 18 "StablepairBureau$Rooms" "count" "I", Cond.methodLink RX6 22 yJ7_fill_53178, Cond.methodLink RX6 28 yX6_decide, Cond.static yX6_decide, Cond.code yX6_decide cX6_decide 5 none, Cond.methodLink RX6 32 yX6_isBlockedBy, Cond.instanceMethod yX6_isBlockedBy, Cond.selects RX6 yX6_isBlockedBy yX6_isBlockedBy, Cond.code yX6_isBlockedBy cX6_isBlockedBy 4 (some .boolean), Cond.methodLink RX6 46 yX6_wouldGo, Cond.instanceMethod yX6_wouldGo, Cond.selects RX6 yX6_wouldGo yX6_wouldGo, Cond.code yX6_wouldGo cX6_wouldGo 5 (some .boolean), Cond.methodLink RX6 42 yX2_placeOf]
def wsL_law0_r54 : List Cond := [Cond.methodLink RX6 39 yX6_note, Cond.instanceMethod yX6_note, Cond.selects RX6 yX6_note yX6_note, Cond.code yX6_note cX6_note 1 none, Cond.methodLink RX6 50 arraycopyName, Cond.methodLink RL 314 yX11_rooms, Cond.instanceMethod yX11_rooms, Cond.selects RX11 yX11_rooms yX11_rooms, Cond.code yX11_rooms cX11_rooms 1 (some .int), Cond.methodLink RX11 260 yX11_quiet, Cond.instanceMethod yX11_quiet, Cond.selects RX11 yX11_quiet yX11_quiet, Cond.code yX11_quiet cX11_quiet 8 (some .int), Cond.fieldLink RX11 253 "StablepairBureauModel" "firstRooms" "[I", Cond.methodLink RX11 256 yX11_isQuiet, Cond.instanceMethod yX11_isQuiet, Cond.selects RX11 yX11_isQuiet yX11_isQuiet, Cond.code yX11_isQuiet cX11_isQuiet 5 (some .boolean), Cond.methodLink RX11 247 yX11_areMates, Cond.instanceMethod yX11_areMates, Cond.selects RX11 yX11_areMates yX11_areMates, Cond.code yX11_areMates cX11_areMates 3 (some .boolean), Cond.methodLink RX11 250 yX11_wants, Cond.instanceMethod yX11_wants]
def wsL_law0_r55 : List Cond := [Cond.selects RX11 yX11_wants yX11_wants, Cond.code yX11_wants cX11_wants 4 (some .boolean), Cond.methodLink RL 315 yL_roomOf, Cond.static yL_roomOf, Cond.codeWith yL_roomOf cL_roomOf 4 (some .int) [(0, 9, 12, 24), (0, 9, 15, 61), (0, 9, 18, 15)], Cond.methodLink RL 140 yX10_roomOf, Cond.instanceMethod yX10_roomOf, Cond.selects RX10 yX10_roomOf yX10_roomOf, Cond.code yX10_roomOf cX10_roomOf 2 (some .int), Cond.methodLink RX10 397 yX6_firstMateOf, Cond.instanceMethod yX6_firstMateOf, Cond.selects RX6 yX6_firstMateOf yX6_firstMateOf, Cond.code yX6_firstMateOf cX6_firstMateOf 2 (some .int), Cond.methodLink RL 317 yX11_roomOf, Cond.instanceMethod yX11_roomOf, Cond.selects RX11 yX11_roomOf yX11_roomOf, Cond.code yX11_roomOf cX11_roomOf 4 (some .int), Cond.methodLink RL 318 yL_trade, Cond.static yL_trade, Cond.codeWith yL_trade cL_trade 3 (some .int) [(0, 8, 11, 61)], Cond.methodLink RL 143 yX10_trade, Cond.instanceMethod yX10_trade, Cond.selects RX10 yX10_trade yX10_trade, Cond.code yX10_trade cX10_trade 1 (some .int)]
def wsL_law0_r56 : List Cond := [Cond.methodLink RX10 400 yX10_needOwners, Cond.instanceMethod yX10_needOwners, Cond.selects RX10 yX10_needOwners yX10_needOwners, Cond.code yX10_needOwners cX10_needOwners 1 none, Cond.methodLink RX10 403 yX9_settleAll, Cond.instanceMethod yX9_settleAll, Cond.selects RX9 yX9_settleAll yX9_settleAll, Cond.code yX9_settleAll cX9_settleAll 3 none, Cond.fieldLink RX9 18 "StablepairBureau$Trade" "rings" "I", Cond.methodLink RX9 22 yJ7_fill_53178, Cond.methodLink RX9 33 yX9_settleRound, Cond.instanceMethod yX9_settleRound, Cond.selects RX9 yX9_settleRound yX9_settleRound, Cond.code yX9_settleRound cX9_settleRound 4 none, Cond.methodLink RX9 37 yX9_firstLeft, Cond.instanceMethod yX9_firstLeft, Cond.selects RX9 yX9_firstLeft yX9_firstLeft, Cond.code yX9_firstLeft cX9_firstLeft 5 (some .int), Cond.methodLink RX9 49 yX2_sizeOf, Cond.methodLink RX9 53 yX2_wishAt, Cond.methodLink RX9 41 yX9_isInRing, Cond.instanceMethod yX9_isInRing, Cond.selects RX9 yX9_isInRing yX9_isInRing, Cond.code yX9_isInRing cX9_isInRing 4 (some .boolean)]
def wsL_law0_r57 : List Cond := [Cond.methodLink RX9 57 yX9_houseGotBy, Cond.instanceMethod yX9_houseGotBy, Cond.selects RX9 yX9_houseGotBy yX9_houseGotBy, Cond.code yX9_houseGotBy cX9_houseGotBy 2 (some .int), Cond.methodLink RX9 45 yX9_closeRing, Cond.instanceMethod yX9_closeRing, Cond.selects RX9 yX9_closeRing yX9_closeRing, Cond.code yX9_closeRing cX9_closeRing 5 none, Cond.methodLink RL 320 yX11_trade, Cond.instanceMethod yX11_trade, Cond.selects RX11 yX11_trade yX11_trade, Cond.code yX11_trade cX11_trade 1 (some .int), Cond.methodLink RX11 266 yX11_trades, Cond.instanceMethod yX11_trades, Cond.selects RX11 yX11_trades yX11_trades, Cond.code yX11_trades cX11_trades 9 (some .int), Cond.methodLink RX11 263 yX11_pointsTo, Cond.instanceMethod yX11_pointsTo, Cond.selects RX11 yX11_pointsTo yX11_pointsTo, Cond.code yX11_pointsTo cX11_pointsTo 3 (some .int), Cond.methodLink RL 321 yL_tradeOf, Cond.static yL_tradeOf, Cond.codeWith yL_tradeOf cL_tradeOf 4 (some .int) [(0, 9, 12, 24), (0, 9, 15, 61)], Cond.methodLink RL 146 yX10_tradeOf]
def wsL_law0_r58 : List Cond := [Cond.instanceMethod yX10_tradeOf, Cond.selects RX10 yX10_tradeOf yX10_tradeOf, Cond.code yX10_tradeOf cX10_tradeOf 2 (some .int), Cond.methodLink RX10 408 yX9_houseGotBy, Cond.methodLink RL 323 yX11_tradeOf, Cond.instanceMethod yX11_tradeOf, Cond.selects RX11 yX11_tradeOf yX11_tradeOf, Cond.code yX11_tradeOf cX11_tradeOf 3 (some .int), Cond.methodLink RL 324 yL_tradeRound, Cond.static yL_tradeRound, Cond.codeWith yL_tradeRound cL_tradeRound 4 (some .int) [(0, 9, 12, 24), (0, 9, 15, 61)], Cond.methodLink RL 149 yX10_tradeRound, Cond.instanceMethod yX10_tradeRound, Cond.selects RX10 yX10_tradeRound yX10_tradeRound, Cond.code yX10_tradeRound cX10_tradeRound 2 (some .int), Cond.methodLink RX10 411 yX9_roundOf, Cond.instanceMethod yX9_roundOf, Cond.selects RX9 yX9_roundOf yX9_roundOf, Cond.code yX9_roundOf cX9_roundOf 2 (some .int), Cond.methodLink RL 326 yX11_tradeRound, Cond.instanceMethod yX11_tradeRound, Cond.selects RX11 yX11_tradeRound yX11_tradeRound, Cond.code yX11_tradeRound cX11_tradeRound 3 (some .int), Cond.methodLink RL 327 yL_give]
def wsL_law0_r59 : List Cond := [Cond.static yL_give, Cond.codeWith yL_give cL_give 6 (some .int) [(0, 19, 22, 13)], Cond.methodLink RL 152 yX10_give, Cond.instanceMethod yX10_give, Cond.selects RX10 yX10_give yX10_give, Cond.code yX10_give cX10_give 5 (some .boolean), Cond.methodLink RX10 414 yX0_has, Cond.instanceMethod yX0_has, Cond.selects RX0 yX0_has yX0_has, Cond.code yX0_has cX0_has 2 (some .boolean), Cond.methodLink RX10 417 yX0_canGive, Cond.instanceMethod yX0_canGive, Cond.selects RX0 yX0_canGive yX0_canGive, Cond.code yX0_canGive cX0_canGive 3 (some .boolean), Cond.methodLink RX0 19 yX0_has, Cond.methodLink RX10 420 yX0_allow, Cond.instanceMethod yX0_allow, Cond.selects RX0 yX0_allow yX0_allow, Cond.code yX0_allow cX0_allow 4 none, Cond.methodLink RL 330 yX11_give, Cond.instanceMethod yX11_give, Cond.selects RX11 yX11_give yX11_give, Cond.code yX11_give cX11_give 5 (some .boolean), Cond.methodLink RL 331 yL_helped]
def wsL_law0_r60 : List Cond := [Cond.static yL_helped, Cond.codeWith yL_helped cL_helped 4 (some .int) [(0, 9, 12, 13)], Cond.methodLink RL 156 yX10_helped, Cond.instanceMethod yX10_helped, Cond.selects RX10 yX10_helped yX10_helped, Cond.code yX10_helped cX10_helped 2 (some .int), Cond.methodLink RX10 426 yX0_mostHelped, Cond.instanceMethod yX0_mostHelped, Cond.selects RX0 yX0_mostHelped yX0_mostHelped, Cond.code yX0_mostHelped cX0_mostHelped 4 (some .int), Cond.methodLink RX0 23 yX0_bestWith, Cond.instanceMethod yX0_bestWith, Cond.selects RX0 yX0_bestWith yX0_bestWith, Cond.code yX0_bestWith cX0_bestWith 7 (some .int), Cond.methodLink RX0 35 Lib.Math.max.name, Cond.methodLink RX0 27 yX0_bestOf, Cond.instanceMethod yX0_bestOf, Cond.selects RX0 yX0_bestOf yX0_bestOf, Cond.code yX0_bestOf cX0_bestOf 2 (some .int), Cond.methodLink RX0 31 yX0_canGive, Cond.methodLink RX0 41 yX0_bestByThree, Cond.instanceMethod yX0_bestByThree, Cond.selects RX0 yX0_bestByThree yX0_bestByThree, Cond.code yX0_bestByThree cX0_bestByThree 6 (some .int)]
def wsL_law0_r61 : List Cond := [Cond.methodLink RL 333 yX11_helped, Cond.instanceMethod yX11_helped, Cond.selects RX11 yX11_helped yX11_helped, Cond.code yX11_helped cX11_helped 11 (some .int), Cond.methodLink RL 334 yL_meanRank, Cond.static yL_meanRank, Cond.codeWith yL_meanRank cL_meanRank 4 (some .int) [(0, 8, 11, 13), (0, 8, 14, 163)], Cond.methodLink RL 159 yX10_meanRank, Cond.instanceMethod yX10_meanRank, Cond.selects RX10 yX10_meanRank yX10_meanRank, Cond.code yX10_meanRank cX10_meanRank 4 (some .double), Cond.classLink RX10 429 "java/lang/ArithmeticException", Cond.initialized "java/lang/ArithmeticException", Cond.methodLink RX10 434 yX5_personsPlaceSum, Cond.methodLink RX10 437 yX5_housesPlaceSum, Cond.methodLink RL 337 yX11_meanRank, Cond.instanceMethod yX11_meanRank, Cond.selects RX11 yX11_meanRank yX11_meanRank, Cond.code yX11_meanRank cX11_meanRank 6 (some .double), Cond.methodLink RX11 269 yX11_pairedMany, Cond.instanceMethod yX11_pairedMany, Cond.selects RX11 yX11_pairedMany yX11_pairedMany, Cond.code yX11_pairedMany cX11_pairedMany 3 (some .int), Cond.methodLink RL 338 yL_pairedShare]
def wsL_law0_r62 : List Cond := [Cond.static yL_pairedShare, Cond.codeWith yL_pairedShare cL_pairedShare 3 (some .int) [(0, 8, 11, 163)], Cond.classLink RL 163 "java/lang/ArithmeticException", Cond.methodLink RL 165 yX10_pairedShare, Cond.instanceMethod yX10_pairedShare, Cond.selects RX10 yX10_pairedShare yX10_pairedShare, Cond.code yX10_pairedShare cX10_pairedShare 2 (some .float), Cond.methodLink RL 341 yX11_pairedShare, Cond.instanceMethod yX11_pairedShare, Cond.selects RX11 yX11_pairedShare yX11_pairedShare, Cond.code yX11_pairedShare cX11_pairedShare 1 (some .float), Cond.methodLink RL 342 yX10_checksum, Cond.instanceMethod yX10_checksum, Cond.selects RX10 yX10_checksum yX10_checksum, Cond.code yX10_checksum cX10_checksum 4 (some .long), Cond.constantLong RX10 442 (7), Cond.constantLong RX10 448 (31), Cond.methodLink RX10 444 yX2_addTo, Cond.instanceMethod yX2_addTo, Cond.selects RX2 yX2_addTo yX2_addTo, Cond.code yX2_addTo cX2_addTo 7 (some .long), Cond.constantLong RX2 50 (31), Cond.methodLink RX10 450 yX0_addTo, Cond.instanceMethod yX0_addTo]
def wsL_law0_r63 : List Cond := [Cond.selects RX0 yX0_addTo yX0_addTo, Cond.code yX0_addTo cX0_addTo 7 (some .long), Cond.constantLong RX0 44 (31), Cond.methodLink RX10 451 yX8_addTo, Cond.instanceMethod yX8_addTo, Cond.selects RX8 yX8_addTo yX8_addTo, Cond.code yX8_addTo cX8_addTo 6 (some .long), Cond.constantLong RX8 47 (31), Cond.methodLink RL 346 yX11_checksum, Cond.instanceMethod yX11_checksum, Cond.selects RX11 yX11_checksum yX11_checksum, Cond.code yX11_checksum cX11_checksum 6 (some .long), Cond.constantLong RX11 272 (7), Cond.constantLong RX11 274 (31), Cond.methodLink RL 347 yX10_isTrue, Cond.instanceMethod yX10_isTrue, Cond.selects RX10 yX10_isTrue yX10_isTrue, Cond.code yX10_isTrue cX10_isTrue 1 (some .boolean), Cond.methodLink RX10 452 yX10_personsHoldTheorem, Cond.instanceMethod yX10_personsHoldTheorem, Cond.selects RX10 yX10_personsHoldTheorem yX10_personsHoldTheorem, Cond.code yX10_personsHoldTheorem cX10_personsHoldTheorem 4 (some .boolean), Cond.methodLink RX10 456 yX10_housesHoldTheorem, Cond.instanceMethod yX10_housesHoldTheorem]
def wsL_law0_r64 : List Cond := [Cond.selects RX10 yX10_housesHoldTheorem yX10_housesHoldTheorem, Cond.code yX10_housesHoldTheorem cX10_housesHoldTheorem 5 (some .boolean), Cond.methodLink RX10 499 yX5_holdsSame, Cond.instanceMethod yX5_holdsSame, Cond.selects RX5 yX5_holdsSame yX5_holdsSame, Cond.code yX5_holdsSame cX5_holdsSame 4 (some .boolean), Cond.methodLink RX10 459 yX10_everyTurnIsCalm, Cond.instanceMethod yX10_everyTurnIsCalm, Cond.selects RX10 yX10_everyTurnIsCalm yX10_everyTurnIsCalm, Cond.code yX10_everyTurnIsCalm cX10_everyTurnIsCalm 2 (some .boolean), Cond.methodLink RX10 503 yX5_copyFrom, Cond.instanceMethod yX5_copyFrom, Cond.selects RX5 yX5_copyFrom yX5_copyFrom, Cond.code yX5_copyFrom cX5_copyFrom 2 none, Cond.methodLink RX5 24 arraycopyName, Cond.methodLink RL 350 yX11_isTrue, Cond.instanceMethod yX11_isTrue, Cond.selects RX11 yX11_isTrue yX11_isTrue, Cond.code yX11_isTrue cX11_isTrue 1 (some .boolean)]
def wsL_law0 : List Cond := (wsL_law0_r1 ++ (wsL_law0_r2 ++ (wsL_law0_r3 ++ (wsL_law0_r4 ++ (wsL_law0_r5 ++ (wsL_law0_r6 ++ (wsL_law0_r7 ++ (wsL_law0_r8 ++ (wsL_law0_r9 ++ (wsL_law0_r10 ++ (wsL_law0_r11 ++ (wsL_law0_r12 ++ (wsL_law0_r13 ++ (wsL_law0_r14 ++ (wsL_law0_r15 ++ (wsL_law0_r16 ++ (wsL_law0_r17 ++ (wsL_law0_r18 ++ (wsL_law0_r19 ++ (wsL_law0_r20 ++ (wsL_law0_r21 ++ (wsL_law0_r22 ++ (wsL_law0_r23 ++ (wsL_law0_r24 ++ (wsL_law0_r25 ++ (wsL_law0_r26 ++ (wsL_law0_r27 ++ (wsL_law0_r28 ++ (wsL_law0_r29 ++ (wsL_law0_r30 ++ (wsL_law0_r31 ++ (wsL_law0_r32 ++ (wsL_law0_r33 ++ (wsL_law0_r34 ++ (wsL_law0_r35 ++ (wsL_law0_r36 ++ (wsL_law0_r37 ++ (wsL_law0_r38 ++ (wsL_law0_r39 ++ (wsL_law0_r40 ++ (wsL_law0_r41 ++ (wsL_law0_r42 ++ (wsL_law0_r43 ++ (wsL_law0_r44 ++ (wsL_law0_r45 ++ (wsL_law0_r46 ++ (wsL_law0_r47 ++ (wsL_law0_r48 ++ (wsL_law0_r49 ++ (wsL_law0_r50 ++ (wsL_law0_r51 ++ (wsL_law0_r52 ++ (wsL_law0_r53 ++ (wsL_law0_r54 ++ (wsL_law0_r55 ++ (wsL_law0_r56 ++ (wsL_law0_r57 ++ (wsL_law0_r58 ++ (wsL_law0_r59 ++ (wsL_law0_r60 ++ (wsL_law0_r61 ++ (wsL_law0_r62 ++ (wsL_law0_r63 ++ wsL_law0_r64))))))))))))))))))))))))))))))))))))))))))))))))))))))))))))))) ++ wsX100 ++ wsX110 ++ wsX30 ++ wsX20 ++ wsX80 ++ wsX50 ++ wsX40 ++ wsX00 ++ wsX70 ++ wsX10 ++ wsX60 ++ wsX90 ++ wsJ00 ++ ([] : List Cond)
abbrev vwCl : List vw_C := [(RJ0, TJ0, 2), (RJx00060, TJx00060, 6), (RX0, TX0, 2), (RX1, TX1, 3), (RX2, TX2, 4), (RX3, TX3, 3), (RX4, TX4, 6), (RX5, TX5, 2), (RX6, TX6, 3), (RX7, TX7, 6), (RX8, TX8, 4), (RX9, TX9, 3), (RX10, TX10, 15), (RX11, TX11, 22)]
/-! own rows: the nest links and the String constants, as tables -/
def nestF : List (String × Nat × String × String × String) := [(RX10, 99, RX2, "count", "I"), (RX9, 28, RX2, "count", "I"), (RX1, 32, RX2, "count", "I"), (RX6, 36, RX2, "count", "I"), (RX1, 26, RX3, "persons", "LStablepairBureau$Lists;"), (RX7, 60, RX3, "persons", "LStablepairBureau$Lists;"), (RX4, 45, RX3, "persons", "LStablepairBureau$Lists;"), (RX5, 70, RX3, "persons", "LStablepairBureau$Lists;"), (RX10, 352, RX3, "persons", "LStablepairBureau$Lists;"), (RX7, 41, RX3, "houses", "LStablepairBureau$Lists;"), (RX4, 39, RX3, "houses", "LStablepairBureau$Lists;"), (RX5, 42, RX3, "houses", "LStablepairBureau$Lists;"), (RX10, 368, RX3, "houses", "LStablepairBureau$Lists;"), (RX10, 140, RX8, "size", "I"), (RX10, 175, RX8, "found", "I"), (RX10, 172, RX8, "numbers", "[I"), (RX10, 474, RX4, "begun", "Z"), (RX10, 242, RX4, "made", "I"), (RX1, 53, RX7, "count", "I"), (RX10, 315, RX7, "count", "I"), (RX10, 336, RX1, "count", "I"), (RX10, 392, RX6, "count", "I"), (RX10, 406, RX9, "rings", "I")]
def nestM : List (String × Nat × MethodName) := [(RX3, 11, yX2_init), (RX10, 18, yX2_init), (RX10, 29, yX8_init), (RX10, 43, yX4_init), (RX10, 50, yX0_init), (RX10, 69, yX7_init), (RX10, 76, yX1_init), (RX10, 83, yX6_init), (RX10, 90, yX9_init)]
def strL : List (String × Nat × String) := [(RX10, 462, "sides are 'p', 'h' and 'm'"), (RX10, 105, "there are ten of them"), (RX10, 470, "no such house"), (RX10, 122, "places are 1 to 4"), (RX10, 133, "a least number is 0 to 4"), (RX10, 138, "codes are 32 to 126"), (RX10, 143, "the text has 60 signs"), (RX10, 154, "no such place in the text"), (RX10, 464, "no such one on this side"), (RX10, 185, "no such place on the list"), (RX10, 193, "the list is not that long"), (RX10, 466, "sides are 'p' and 'h' here"), (RX10, 478, "no offers have begun"), (RX10, 222, "no such one on the side that offers"), (RX10, 231, "it can make no offer"), (RX10, 480, "no such offer"), (RX10, 468, "no such person"), (RX10, 261, "one is not on the list of the other"), (RX10, 270, "they are paired, or the house is full"), (RX10, 284, "the house does not hold as many"), (RX10, 298, "no such pair blocks"), (RX10, 488, "the pairing is not stable"), (RX10, 486, "no such rotation"), (RX10, 320, "no such place in the rotation"), (RX10, 494, "there are more than 60 stable pairings"), (RX10, 337, "no such stable pairing"), (RX10, 346, "kinds are 's' and 'w'"), (RX10, 472, "the house has more places than one"), (RX10, 482, "there are more than 8 mates"), (RX10, 393, "no such mate"), (RX10, 395, "no pairing of mates is stable"), (RX10, 484, "there are not as many houses as persons"), (RX10, 415, "no two such couples"), (RX10, 424, "a ring has at most 2 or 3 couples"), (RX10, 431, "there are no pairs"), (RX10, 440, "there are no persons"), (RX11, 70, "phm")]
theorem inlX10 : ∀ w ∈ wsX100, w ∈ wsL_law0 := fun _ h => List.mem_append_left _ (List.mem_append_left _ (List.mem_append_left _ (List.mem_append_left _ (List.mem_append_left _ (List.mem_append_left _ (List.mem_append_left _ (List.mem_append_left _ (List.mem_append_left _ (List.mem_append_left _ (List.mem_append_left _ (List.mem_append_left _ (List.mem_append_left _ (List.mem_append_right _ h)))))))))))))
theorem inlX11 : ∀ w ∈ wsX110, w ∈ wsL_law0 := fun _ h => List.mem_append_left _ (List.mem_append_left _ (List.mem_append_left _ (List.mem_append_left _ (List.mem_append_left _ (List.mem_append_left _ (List.mem_append_left _ (List.mem_append_left _ (List.mem_append_left _ (List.mem_append_left _ (List.mem_append_left _ (List.mem_append_left _ (List.mem_append_right _ h))))))))))))
theorem inlX3 : ∀ w ∈ wsX30, w ∈ wsL_law0 := fun _ h => List.mem_append_left _ (List.mem_append_left _ (List.mem_append_left _ (List.mem_append_left _ (List.mem_append_left _ (List.mem_append_left _ (List.mem_append_left _ (List.mem_append_left _ (List.mem_append_left _ (List.mem_append_left _ (List.mem_append_left _ (List.mem_append_right _ h)))))))))))
theorem inlX2 : ∀ w ∈ wsX20, w ∈ wsL_law0 := fun _ h => List.mem_append_left _ (List.mem_append_left _ (List.mem_append_left _ (List.mem_append_left _ (List.mem_append_left _ (List.mem_append_left _ (List.mem_append_left _ (List.mem_append_left _ (List.mem_append_left _ (List.mem_append_left _ (List.mem_append_right _ h))))))))))
theorem inlX8 : ∀ w ∈ wsX80, w ∈ wsL_law0 := fun _ h => List.mem_append_left _ (List.mem_append_left _ (List.mem_append_left _ (List.mem_append_left _ (List.mem_append_left _ (List.mem_append_left _ (List.mem_append_left _ (List.mem_append_left _ (List.mem_append_left _ (List.mem_append_right _ h)))))))))
theorem inlX5 : ∀ w ∈ wsX50, w ∈ wsL_law0 := fun _ h => List.mem_append_left _ (List.mem_append_left _ (List.mem_append_left _ (List.mem_append_left _ (List.mem_append_left _ (List.mem_append_left _ (List.mem_append_left _ (List.mem_append_left _ (List.mem_append_right _ h))))))))
theorem inlX4 : ∀ w ∈ wsX40, w ∈ wsL_law0 := fun _ h => List.mem_append_left _ (List.mem_append_left _ (List.mem_append_left _ (List.mem_append_left _ (List.mem_append_left _ (List.mem_append_left _ (List.mem_append_left _ (List.mem_append_right _ h)))))))
theorem inlX0 : ∀ w ∈ wsX00, w ∈ wsL_law0 := fun _ h => List.mem_append_left _ (List.mem_append_left _ (List.mem_append_left _ (List.mem_append_left _ (List.mem_append_left _ (List.mem_append_left _ (List.mem_append_right _ h))))))
theorem inlX7 : ∀ w ∈ wsX70, w ∈ wsL_law0 := fun _ h => List.mem_append_left _ (List.mem_append_left _ (List.mem_append_left _ (List.mem_append_left _ (List.mem_append_left _ (List.mem_append_right _ h)))))
theorem inlX1 : ∀ w ∈ wsX10, w ∈ wsL_law0 := fun _ h => List.mem_append_left _ (List.mem_append_left _ (List.mem_append_left _ (List.mem_append_left _ (List.mem_append_right _ h))))
theorem inlX6 : ∀ w ∈ wsX60, w ∈ wsL_law0 := fun _ h => List.mem_append_left _ (List.mem_append_left _ (List.mem_append_left _ (List.mem_append_right _ h)))
theorem inlX9 : ∀ w ∈ wsX90, w ∈ wsL_law0 := fun _ h => List.mem_append_left _ (List.mem_append_left _ (List.mem_append_right _ h))
theorem inlJ0 : ∀ w ∈ wsJ00, w ∈ wsL_law0 := fun _ h => List.mem_append_left _ (List.mem_append_right _ h)
theorem ic_1 : ∀ w ∈ wsL_law0_r1, w ∈ wsL_law0 := fun _ h => List.mem_append_left _ (List.mem_append_left _ (List.mem_append_left _ (List.mem_append_left _ (List.mem_append_left _ (List.mem_append_left _ (List.mem_append_left _ (List.mem_append_left _ (List.mem_append_left _ (List.mem_append_left _ (List.mem_append_left _ (List.mem_append_left _ (List.mem_append_left _ (List.mem_append_left _ (List.mem_append_left _ h))))))))))))))
theorem ic_2 : ∀ w ∈ wsL_law0_r2, w ∈ wsL_law0 := fun _ h => List.mem_append_left _ (List.mem_append_left _ (List.mem_append_left _ (List.mem_append_left _ (List.mem_append_left _ (List.mem_append_left _ (List.mem_append_left _ (List.mem_append_left _ (List.mem_append_left _ (List.mem_append_left _ (List.mem_append_left _ (List.mem_append_left _ (List.mem_append_left _ (List.mem_append_left _ (List.mem_append_right _ (List.mem_append_left _ h)))))))))))))))
theorem ic_3 : ∀ w ∈ wsL_law0_r3, w ∈ wsL_law0 := fun _ h => List.mem_append_left _ (List.mem_append_left _ (List.mem_append_left _ (List.mem_append_left _ (List.mem_append_left _ (List.mem_append_left _ (List.mem_append_left _ (List.mem_append_left _ (List.mem_append_left _ (List.mem_append_left _ (List.mem_append_left _ (List.mem_append_left _ (List.mem_append_left _ (List.mem_append_left _ (List.mem_append_right _ (List.mem_append_right _ (List.mem_append_left _ h))))))))))))))))
theorem ic_4 : ∀ w ∈ wsL_law0_r4, w ∈ wsL_law0 := fun _ h => List.mem_append_left _ (List.mem_append_left _ (List.mem_append_left _ (List.mem_append_left _ (List.mem_append_left _ (List.mem_append_left _ (List.mem_append_left _ (List.mem_append_left _ (List.mem_append_left _ (List.mem_append_left _ (List.mem_append_left _ (List.mem_append_left _ (List.mem_append_left _ (List.mem_append_left _ (List.mem_append_right _ (List.mem_append_right _ (List.mem_append_right _ (List.mem_append_left _ h)))))))))))))))))
theorem ic_5 : ∀ w ∈ wsL_law0_r5, w ∈ wsL_law0 := fun _ h => List.mem_append_left _ (List.mem_append_left _ (List.mem_append_left _ (List.mem_append_left _ (List.mem_append_left _ (List.mem_append_left _ (List.mem_append_left _ (List.mem_append_left _ (List.mem_append_left _ (List.mem_append_left _ (List.mem_append_left _ (List.mem_append_left _ (List.mem_append_left _ (List.mem_append_left _ (List.mem_append_right _ (List.mem_append_right _ (List.mem_append_right _ (List.mem_append_right _ (List.mem_append_left _ h))))))))))))))))))
theorem ic_6 : ∀ w ∈ wsL_law0_r6, w ∈ wsL_law0 := fun _ h => List.mem_append_left _ (List.mem_append_left _ (List.mem_append_left _ (List.mem_append_left _ (List.mem_append_left _ (List.mem_append_left _ (List.mem_append_left _ (List.mem_append_left _ (List.mem_append_left _ (List.mem_append_left _ (List.mem_append_left _ (List.mem_append_left _ (List.mem_append_left _ (List.mem_append_left _ (List.mem_append_right _ (List.mem_append_right _ (List.mem_append_right _ (List.mem_append_right _ (List.mem_append_right _ (List.mem_append_left _ h)))))))))))))))))))
theorem ic_7 : ∀ w ∈ wsL_law0_r7, w ∈ wsL_law0 := fun _ h => List.mem_append_left _ (List.mem_append_left _ (List.mem_append_left _ (List.mem_append_left _ (List.mem_append_left _ (List.mem_append_left _ (List.mem_append_left _ (List.mem_append_left _ (List.mem_append_left _ (List.mem_append_left _ (List.mem_append_left _ (List.mem_append_left _ (List.mem_append_left _ (List.mem_append_left _ (List.mem_append_right _ (List.mem_append_right _ (List.mem_append_right _ (List.mem_append_right _ (List.mem_append_right _ (List.mem_append_right _ (List.mem_append_left _ h))))))))))))))))))))
theorem ic_8 : ∀ w ∈ wsL_law0_r8, w ∈ wsL_law0 := fun _ h => List.mem_append_left _ (List.mem_append_left _ (List.mem_append_left _ (List.mem_append_left _ (List.mem_append_left _ (List.mem_append_left _ (List.mem_append_left _ (List.mem_append_left _ (List.mem_append_left _ (List.mem_append_left _ (List.mem_append_left _ (List.mem_append_left _ (List.mem_append_left _ (List.mem_append_left _ (List.mem_append_right _ (List.mem_append_right _ (List.mem_append_right _ (List.mem_append_right _ (List.mem_append_right _ (List.mem_append_right _ (List.mem_append_right _ (List.mem_append_left _ h)))))))))))))))))))))
theorem ic_9 : ∀ w ∈ wsL_law0_r9, w ∈ wsL_law0 := fun _ h => List.mem_append_left _ (List.mem_append_left _ (List.mem_append_left _ (List.mem_append_left _ (List.mem_append_left _ (List.mem_append_left _ (List.mem_append_left _ (List.mem_append_left _ (List.mem_append_left _ (List.mem_append_left _ (List.mem_append_left _ (List.mem_append_left _ (List.mem_append_left _ (List.mem_append_left _ (List.mem_append_right _ (List.mem_append_right _ (List.mem_append_right _ (List.mem_append_right _ (List.mem_append_right _ (List.mem_append_right _ (List.mem_append_right _ (List.mem_append_right _ (List.mem_append_left _ h))))))))))))))))))))))
theorem ic_10 : ∀ w ∈ wsL_law0_r10, w ∈ wsL_law0 := fun _ h => List.mem_append_left _ (List.mem_append_left _ (List.mem_append_left _ (List.mem_append_left _ (List.mem_append_left _ (List.mem_append_left _ (List.mem_append_left _ (List.mem_append_left _ (List.mem_append_left _ (List.mem_append_left _ (List.mem_append_left _ (List.mem_append_left _ (List.mem_append_left _ (List.mem_append_left _ (List.mem_append_right _ (List.mem_append_right _ (List.mem_append_right _ (List.mem_append_right _ (List.mem_append_right _ (List.mem_append_right _ (List.mem_append_right _ (List.mem_append_right _ (List.mem_append_right _ (List.mem_append_left _ h)))))))))))))))))))))))
theorem ic_11 : ∀ w ∈ wsL_law0_r11, w ∈ wsL_law0 := fun _ h => List.mem_append_left _ (List.mem_append_left _ (List.mem_append_left _ (List.mem_append_left _ (List.mem_append_left _ (List.mem_append_left _ (List.mem_append_left _ (List.mem_append_left _ (List.mem_append_left _ (List.mem_append_left _ (List.mem_append_left _ (List.mem_append_left _ (List.mem_append_left _ (List.mem_append_left _ (List.mem_append_right _ (List.mem_append_right _ (List.mem_append_right _ (List.mem_append_right _ (List.mem_append_right _ (List.mem_append_right _ (List.mem_append_right _ (List.mem_append_right _ (List.mem_append_right _ (List.mem_append_right _ (List.mem_append_left _ h))))))))))))))))))))))))
theorem ic_12 : ∀ w ∈ wsL_law0_r12, w ∈ wsL_law0 := fun _ h => List.mem_append_left _ (List.mem_append_left _ (List.mem_append_left _ (List.mem_append_left _ (List.mem_append_left _ (List.mem_append_left _ (List.mem_append_left _ (List.mem_append_left _ (List.mem_append_left _ (List.mem_append_left _ (List.mem_append_left _ (List.mem_append_left _ (List.mem_append_left _ (List.mem_append_left _ (List.mem_append_right _ (List.mem_append_right _ (List.mem_append_right _ (List.mem_append_right _ (List.mem_append_right _ (List.mem_append_right _ (List.mem_append_right _ (List.mem_append_right _ (List.mem_append_right _ (List.mem_append_right _ (List.mem_append_right _ (List.mem_append_left _ h)))))))))))))))))))))))))
theorem ic_13 : ∀ w ∈ wsL_law0_r13, w ∈ wsL_law0 := fun _ h => List.mem_append_left _ (List.mem_append_left _ (List.mem_append_left _ (List.mem_append_left _ (List.mem_append_left _ (List.mem_append_left _ (List.mem_append_left _ (List.mem_append_left _ (List.mem_append_left _ (List.mem_append_left _ (List.mem_append_left _ (List.mem_append_left _ (List.mem_append_left _ (List.mem_append_left _ (List.mem_append_right _ (List.mem_append_right _ (List.mem_append_right _ (List.mem_append_right _ (List.mem_append_right _ (List.mem_append_right _ (List.mem_append_right _ (List.mem_append_right _ (List.mem_append_right _ (List.mem_append_right _ (List.mem_append_right _ (List.mem_append_right _ (List.mem_append_left _ h))))))))))))))))))))))))))
theorem ic_14 : ∀ w ∈ wsL_law0_r14, w ∈ wsL_law0 := fun _ h => List.mem_append_left _ (List.mem_append_left _ (List.mem_append_left _ (List.mem_append_left _ (List.mem_append_left _ (List.mem_append_left _ (List.mem_append_left _ (List.mem_append_left _ (List.mem_append_left _ (List.mem_append_left _ (List.mem_append_left _ (List.mem_append_left _ (List.mem_append_left _ (List.mem_append_left _ (List.mem_append_right _ (List.mem_append_right _ (List.mem_append_right _ (List.mem_append_right _ (List.mem_append_right _ (List.mem_append_right _ (List.mem_append_right _ (List.mem_append_right _ (List.mem_append_right _ (List.mem_append_right _ (List.mem_append_right _ (List.mem_append_right _ (List.mem_append_right _ (List.mem_append_left _ h)))))))))))))))))))))))))))
theorem ic_15 : ∀ w ∈ wsL_law0_r15, w ∈ wsL_law0 := fun _ h => List.mem_append_left _ (List.mem_append_left _ (List.mem_append_left _ (List.mem_append_left _ (List.mem_append_left _ (List.mem_append_left _ (List.mem_append_left _ (List.mem_append_left _ (List.mem_append_left _ (List.mem_append_left _ (List.mem_append_left _ (List.mem_append_left _ (List.mem_append_left _ (List.mem_append_left _ (List.mem_append_right _ (List.mem_append_right _ (List.mem_append_right _ (List.mem_append_right _ (List.mem_append_right _ (List.mem_append_right _ (List.mem_append_right _ (List.mem_append_right _ (List.mem_append_right _ (List.mem_append_right _ (List.mem_append_right _ (List.mem_append_right _ (List.mem_append_right _ (List.mem_append_right _ (List.mem_append_left _ h))))))))))))))))))))))))))))
theorem ic_16 : ∀ w ∈ wsL_law0_r16, w ∈ wsL_law0 := fun _ h => List.mem_append_left _ (List.mem_append_left _ (List.mem_append_left _ (List.mem_append_left _ (List.mem_append_left _ (List.mem_append_left _ (List.mem_append_left _ (List.mem_append_left _ (List.mem_append_left _ (List.mem_append_left _ (List.mem_append_left _ (List.mem_append_left _ (List.mem_append_left _ (List.mem_append_left _ (List.mem_append_right _ (List.mem_append_right _ (List.mem_append_right _ (List.mem_append_right _ (List.mem_append_right _ (List.mem_append_right _ (List.mem_append_right _ (List.mem_append_right _ (List.mem_append_right _ (List.mem_append_right _ (List.mem_append_right _ (List.mem_append_right _ (List.mem_append_right _ (List.mem_append_right _ (List.mem_append_right _ (List.mem_append_left _ h)))))))))))))))))))))))))))))
theorem ic_17 : ∀ w ∈ wsL_law0_r17, w ∈ wsL_law0 := fun _ h => List.mem_append_left _ (List.mem_append_left _ (List.mem_append_left _ (List.mem_append_left _ (List.mem_append_left _ (List.mem_append_left _ (List.mem_append_left _ (List.mem_append_left _ (List.mem_append_left _ (List.mem_append_left _ (List.mem_append_left _ (List.mem_append_left _ (List.mem_append_left _ (List.mem_append_left _ (List.mem_append_right _ (List.mem_append_right _ (List.mem_append_right _ (List.mem_append_right _ (List.mem_append_right _ (List.mem_append_right _ (List.mem_append_right _ (List.mem_append_right _ (List.mem_append_right _ (List.mem_append_right _ (List.mem_append_right _ (List.mem_append_right _ (List.mem_append_right _ (List.mem_append_right _ (List.mem_append_right _ (List.mem_append_right _ (List.mem_append_left _ h))))))))))))))))))))))))))))))
theorem ic_18 : ∀ w ∈ wsL_law0_r18, w ∈ wsL_law0 := fun _ h => List.mem_append_left _ (List.mem_append_left _ (List.mem_append_left _ (List.mem_append_left _ (List.mem_append_left _ (List.mem_append_left _ (List.mem_append_left _ (List.mem_append_left _ (List.mem_append_left _ (List.mem_append_left _ (List.mem_append_left _ (List.mem_append_left _ (List.mem_append_left _ (List.mem_append_left _ (List.mem_append_right _ (List.mem_append_right _ (List.mem_append_right _ (List.mem_append_right _ (List.mem_append_right _ (List.mem_append_right _ (List.mem_append_right _ (List.mem_append_right _ (List.mem_append_right _ (List.mem_append_right _ (List.mem_append_right _ (List.mem_append_right _ (List.mem_append_right _ (List.mem_append_right _ (List.mem_append_right _ (List.mem_append_right _ (List.mem_append_right _ (List.mem_append_left _ h)))))))))))))))))))))))))))))))
theorem ic_19 : ∀ w ∈ wsL_law0_r19, w ∈ wsL_law0 := fun _ h => List.mem_append_left _ (List.mem_append_left _ (List.mem_append_left _ (List.mem_append_left _ (List.mem_append_left _ (List.mem_append_left _ (List.mem_append_left _ (List.mem_append_left _ (List.mem_append_left _ (List.mem_append_left _ (List.mem_append_left _ (List.mem_append_left _ (List.mem_append_left _ (List.mem_append_left _ (List.mem_append_right _ (List.mem_append_right _ (List.mem_append_right _ (List.mem_append_right _ (List.mem_append_right _ (List.mem_append_right _ (List.mem_append_right _ (List.mem_append_right _ (List.mem_append_right _ (List.mem_append_right _ (List.mem_append_right _ (List.mem_append_right _ (List.mem_append_right _ (List.mem_append_right _ (List.mem_append_right _ (List.mem_append_right _ (List.mem_append_right _ (List.mem_append_right _ (List.mem_append_left _ h))))))))))))))))))))))))))))))))
theorem ic_20 : ∀ w ∈ wsL_law0_r20, w ∈ wsL_law0 := fun _ h => List.mem_append_left _ (List.mem_append_left _ (List.mem_append_left _ (List.mem_append_left _ (List.mem_append_left _ (List.mem_append_left _ (List.mem_append_left _ (List.mem_append_left _ (List.mem_append_left _ (List.mem_append_left _ (List.mem_append_left _ (List.mem_append_left _ (List.mem_append_left _ (List.mem_append_left _ (List.mem_append_right _ (List.mem_append_right _ (List.mem_append_right _ (List.mem_append_right _ (List.mem_append_right _ (List.mem_append_right _ (List.mem_append_right _ (List.mem_append_right _ (List.mem_append_right _ (List.mem_append_right _ (List.mem_append_right _ (List.mem_append_right _ (List.mem_append_right _ (List.mem_append_right _ (List.mem_append_right _ (List.mem_append_right _ (List.mem_append_right _ (List.mem_append_right _ (List.mem_append_right _ (List.mem_append_left _ h)))))))))))))))))))))))))))))))))
theorem ic_21 : ∀ w ∈ wsL_law0_r21, w ∈ wsL_law0 := fun _ h => List.mem_append_left _ (List.mem_append_left _ (List.mem_append_left _ (List.mem_append_left _ (List.mem_append_left _ (List.mem_append_left _ (List.mem_append_left _ (List.mem_append_left _ (List.mem_append_left _ (List.mem_append_left _ (List.mem_append_left _ (List.mem_append_left _ (List.mem_append_left _ (List.mem_append_left _ (List.mem_append_right _ (List.mem_append_right _ (List.mem_append_right _ (List.mem_append_right _ (List.mem_append_right _ (List.mem_append_right _ (List.mem_append_right _ (List.mem_append_right _ (List.mem_append_right _ (List.mem_append_right _ (List.mem_append_right _ (List.mem_append_right _ (List.mem_append_right _ (List.mem_append_right _ (List.mem_append_right _ (List.mem_append_right _ (List.mem_append_right _ (List.mem_append_right _ (List.mem_append_right _ (List.mem_append_right _ (List.mem_append_left _ h))))))))))))))))))))))))))))))))))
theorem ic_22 : ∀ w ∈ wsL_law0_r22, w ∈ wsL_law0 := fun _ h => List.mem_append_left _ (List.mem_append_left _ (List.mem_append_left _ (List.mem_append_left _ (List.mem_append_left _ (List.mem_append_left _ (List.mem_append_left _ (List.mem_append_left _ (List.mem_append_left _ (List.mem_append_left _ (List.mem_append_left _ (List.mem_append_left _ (List.mem_append_left _ (List.mem_append_left _ (List.mem_append_right _ (List.mem_append_right _ (List.mem_append_right _ (List.mem_append_right _ (List.mem_append_right _ (List.mem_append_right _ (List.mem_append_right _ (List.mem_append_right _ (List.mem_append_right _ (List.mem_append_right _ (List.mem_append_right _ (List.mem_append_right _ (List.mem_append_right _ (List.mem_append_right _ (List.mem_append_right _ (List.mem_append_right _ (List.mem_append_right _ (List.mem_append_right _ (List.mem_append_right _ (List.mem_append_right _ (List.mem_append_right _ (List.mem_append_left _ h)))))))))))))))))))))))))))))))))))
theorem ic_23 : ∀ w ∈ wsL_law0_r23, w ∈ wsL_law0 := fun _ h => List.mem_append_left _ (List.mem_append_left _ (List.mem_append_left _ (List.mem_append_left _ (List.mem_append_left _ (List.mem_append_left _ (List.mem_append_left _ (List.mem_append_left _ (List.mem_append_left _ (List.mem_append_left _ (List.mem_append_left _ (List.mem_append_left _ (List.mem_append_left _ (List.mem_append_left _ (List.mem_append_right _ (List.mem_append_right _ (List.mem_append_right _ (List.mem_append_right _ (List.mem_append_right _ (List.mem_append_right _ (List.mem_append_right _ (List.mem_append_right _ (List.mem_append_right _ (List.mem_append_right _ (List.mem_append_right _ (List.mem_append_right _ (List.mem_append_right _ (List.mem_append_right _ (List.mem_append_right _ (List.mem_append_right _ (List.mem_append_right _ (List.mem_append_right _ (List.mem_append_right _ (List.mem_append_right _ (List.mem_append_right _ (List.mem_append_right _ (List.mem_append_left _ h))))))))))))))))))))))))))))))))))))
theorem ic_24 : ∀ w ∈ wsL_law0_r24, w ∈ wsL_law0 := fun _ h => List.mem_append_left _ (List.mem_append_left _ (List.mem_append_left _ (List.mem_append_left _ (List.mem_append_left _ (List.mem_append_left _ (List.mem_append_left _ (List.mem_append_left _ (List.mem_append_left _ (List.mem_append_left _ (List.mem_append_left _ (List.mem_append_left _ (List.mem_append_left _ (List.mem_append_left _ (List.mem_append_right _ (List.mem_append_right _ (List.mem_append_right _ (List.mem_append_right _ (List.mem_append_right _ (List.mem_append_right _ (List.mem_append_right _ (List.mem_append_right _ (List.mem_append_right _ (List.mem_append_right _ (List.mem_append_right _ (List.mem_append_right _ (List.mem_append_right _ (List.mem_append_right _ (List.mem_append_right _ (List.mem_append_right _ (List.mem_append_right _ (List.mem_append_right _ (List.mem_append_right _ (List.mem_append_right _ (List.mem_append_right _ (List.mem_append_right _ (List.mem_append_right _ (List.mem_append_left _ h)))))))))))))))))))))))))))))))))))))
theorem ic_25 : ∀ w ∈ wsL_law0_r25, w ∈ wsL_law0 := fun _ h => List.mem_append_left _ (List.mem_append_left _ (List.mem_append_left _ (List.mem_append_left _ (List.mem_append_left _ (List.mem_append_left _ (List.mem_append_left _ (List.mem_append_left _ (List.mem_append_left _ (List.mem_append_left _ (List.mem_append_left _ (List.mem_append_left _ (List.mem_append_left _ (List.mem_append_left _ (List.mem_append_right _ (List.mem_append_right _ (List.mem_append_right _ (List.mem_append_right _ (List.mem_append_right _ (List.mem_append_right _ (List.mem_append_right _ (List.mem_append_right _ (List.mem_append_right _ (List.mem_append_right _ (List.mem_append_right _ (List.mem_append_right _ (List.mem_append_right _ (List.mem_append_right _ (List.mem_append_right _ (List.mem_append_right _ (List.mem_append_right _ (List.mem_append_right _ (List.mem_append_right _ (List.mem_append_right _ (List.mem_append_right _ (List.mem_append_right _ (List.mem_append_right _ (List.mem_append_right _ (List.mem_append_left _ h))))))))))))))))))))))))))))))))))))))
theorem ic_26 : ∀ w ∈ wsL_law0_r26, w ∈ wsL_law0 := fun _ h => List.mem_append_left _ (List.mem_append_left _ (List.mem_append_left _ (List.mem_append_left _ (List.mem_append_left _ (List.mem_append_left _ (List.mem_append_left _ (List.mem_append_left _ (List.mem_append_left _ (List.mem_append_left _ (List.mem_append_left _ (List.mem_append_left _ (List.mem_append_left _ (List.mem_append_left _ (List.mem_append_right _ (List.mem_append_right _ (List.mem_append_right _ (List.mem_append_right _ (List.mem_append_right _ (List.mem_append_right _ (List.mem_append_right _ (List.mem_append_right _ (List.mem_append_right _ (List.mem_append_right _ (List.mem_append_right _ (List.mem_append_right _ (List.mem_append_right _ (List.mem_append_right _ (List.mem_append_right _ (List.mem_append_right _ (List.mem_append_right _ (List.mem_append_right _ (List.mem_append_right _ (List.mem_append_right _ (List.mem_append_right _ (List.mem_append_right _ (List.mem_append_right _ (List.mem_append_right _ (List.mem_append_right _ (List.mem_append_left _ h)))))))))))))))))))))))))))))))))))))))
theorem ic_27 : ∀ w ∈ wsL_law0_r27, w ∈ wsL_law0 := fun _ h => List.mem_append_left _ (List.mem_append_left _ (List.mem_append_left _ (List.mem_append_left _ (List.mem_append_left _ (List.mem_append_left _ (List.mem_append_left _ (List.mem_append_left _ (List.mem_append_left _ (List.mem_append_left _ (List.mem_append_left _ (List.mem_append_left _ (List.mem_append_left _ (List.mem_append_left _ (List.mem_append_right _ (List.mem_append_right _ (List.mem_append_right _ (List.mem_append_right _ (List.mem_append_right _ (List.mem_append_right _ (List.mem_append_right _ (List.mem_append_right _ (List.mem_append_right _ (List.mem_append_right _ (List.mem_append_right _ (List.mem_append_right _ (List.mem_append_right _ (List.mem_append_right _ (List.mem_append_right _ (List.mem_append_right _ (List.mem_append_right _ (List.mem_append_right _ (List.mem_append_right _ (List.mem_append_right _ (List.mem_append_right _ (List.mem_append_right _ (List.mem_append_right _ (List.mem_append_right _ (List.mem_append_right _ (List.mem_append_right _ (List.mem_append_left _ h))))))))))))))))))))))))))))))))))))))))
theorem ic_28 : ∀ w ∈ wsL_law0_r28, w ∈ wsL_law0 := fun _ h => List.mem_append_left _ (List.mem_append_left _ (List.mem_append_left _ (List.mem_append_left _ (List.mem_append_left _ (List.mem_append_left _ (List.mem_append_left _ (List.mem_append_left _ (List.mem_append_left _ (List.mem_append_left _ (List.mem_append_left _ (List.mem_append_left _ (List.mem_append_left _ (List.mem_append_left _ (List.mem_append_right _ (List.mem_append_right _ (List.mem_append_right _ (List.mem_append_right _ (List.mem_append_right _ (List.mem_append_right _ (List.mem_append_right _ (List.mem_append_right _ (List.mem_append_right _ (List.mem_append_right _ (List.mem_append_right _ (List.mem_append_right _ (List.mem_append_right _ (List.mem_append_right _ (List.mem_append_right _ (List.mem_append_right _ (List.mem_append_right _ (List.mem_append_right _ (List.mem_append_right _ (List.mem_append_right _ (List.mem_append_right _ (List.mem_append_right _ (List.mem_append_right _ (List.mem_append_right _ (List.mem_append_right _ (List.mem_append_right _ (List.mem_append_right _ (List.mem_append_left _ h)))))))))))))))))))))))))))))))))))))))))
theorem ic_29 : ∀ w ∈ wsL_law0_r29, w ∈ wsL_law0 := fun _ h => List.mem_append_left _ (List.mem_append_left _ (List.mem_append_left _ (List.mem_append_left _ (List.mem_append_left _ (List.mem_append_left _ (List.mem_append_left _ (List.mem_append_left _ (List.mem_append_left _ (List.mem_append_left _ (List.mem_append_left _ (List.mem_append_left _ (List.mem_append_left _ (List.mem_append_left _ (List.mem_append_right _ (List.mem_append_right _ (List.mem_append_right _ (List.mem_append_right _ (List.mem_append_right _ (List.mem_append_right _ (List.mem_append_right _ (List.mem_append_right _ (List.mem_append_right _ (List.mem_append_right _ (List.mem_append_right _ (List.mem_append_right _ (List.mem_append_right _ (List.mem_append_right _ (List.mem_append_right _ (List.mem_append_right _ (List.mem_append_right _ (List.mem_append_right _ (List.mem_append_right _ (List.mem_append_right _ (List.mem_append_right _ (List.mem_append_right _ (List.mem_append_right _ (List.mem_append_right _ (List.mem_append_right _ (List.mem_append_right _ (List.mem_append_right _ (List.mem_append_right _ (List.mem_append_left _ h))))))))))))))))))))))))))))))))))))))))))
theorem ic_30 : ∀ w ∈ wsL_law0_r30, w ∈ wsL_law0 := fun _ h => List.mem_append_left _ (List.mem_append_left _ (List.mem_append_left _ (List.mem_append_left _ (List.mem_append_left _ (List.mem_append_left _ (List.mem_append_left _ (List.mem_append_left _ (List.mem_append_left _ (List.mem_append_left _ (List.mem_append_left _ (List.mem_append_left _ (List.mem_append_left _ (List.mem_append_left _ (List.mem_append_right _ (List.mem_append_right _ (List.mem_append_right _ (List.mem_append_right _ (List.mem_append_right _ (List.mem_append_right _ (List.mem_append_right _ (List.mem_append_right _ (List.mem_append_right _ (List.mem_append_right _ (List.mem_append_right _ (List.mem_append_right _ (List.mem_append_right _ (List.mem_append_right _ (List.mem_append_right _ (List.mem_append_right _ (List.mem_append_right _ (List.mem_append_right _ (List.mem_append_right _ (List.mem_append_right _ (List.mem_append_right _ (List.mem_append_right _ (List.mem_append_right _ (List.mem_append_right _ (List.mem_append_right _ (List.mem_append_right _ (List.mem_append_right _ (List.mem_append_right _ (List.mem_append_right _ (List.mem_append_left _ h)))))))))))))))))))))))))))))))))))))))))))
theorem ic_31 : ∀ w ∈ wsL_law0_r31, w ∈ wsL_law0 := fun _ h => List.mem_append_left _ (List.mem_append_left _ (List.mem_append_left _ (List.mem_append_left _ (List.mem_append_left _ (List.mem_append_left _ (List.mem_append_left _ (List.mem_append_left _ (List.mem_append_left _ (List.mem_append_left _ (List.mem_append_left _ (List.mem_append_left _ (List.mem_append_left _ (List.mem_append_left _ (List.mem_append_right _ (List.mem_append_right _ (List.mem_append_right _ (List.mem_append_right _ (List.mem_append_right _ (List.mem_append_right _ (List.mem_append_right _ (List.mem_append_right _ (List.mem_append_right _ (List.mem_append_right _ (List.mem_append_right _ (List.mem_append_right _ (List.mem_append_right _ (List.mem_append_right _ (List.mem_append_right _ (List.mem_append_right _ (List.mem_append_right _ (List.mem_append_right _ (List.mem_append_right _ (List.mem_append_right _ (List.mem_append_right _ (List.mem_append_right _ (List.mem_append_right _ (List.mem_append_right _ (List.mem_append_right _ (List.mem_append_right _ (List.mem_append_right _ (List.mem_append_right _ (List.mem_append_right _ (List.mem_append_right _ (List.mem_append_left _ h))))))))))))))))))))))))))))))))))))))))))))
theorem ic_32 : ∀ w ∈ wsL_law0_r32, w ∈ wsL_law0 := fun _ h => List.mem_append_left _ (List.mem_append_left _ (List.mem_append_left _ (List.mem_append_left _ (List.mem_append_left _ (List.mem_append_left _ (List.mem_append_left _ (List.mem_append_left _ (List.mem_append_left _ (List.mem_append_left _ (List.mem_append_left _ (List.mem_append_left _ (List.mem_append_left _ (List.mem_append_left _ (List.mem_append_right _ (List.mem_append_right _ (List.mem_append_right _ (List.mem_append_right _ (List.mem_append_right _ (List.mem_append_right _ (List.mem_append_right _ (List.mem_append_right _ (List.mem_append_right _ (List.mem_append_right _ (List.mem_append_right _ (List.mem_append_right _ (List.mem_append_right _ (List.mem_append_right _ (List.mem_append_right _ (List.mem_append_right _ (List.mem_append_right _ (List.mem_append_right _ (List.mem_append_right _ (List.mem_append_right _ (List.mem_append_right _ (List.mem_append_right _ (List.mem_append_right _ (List.mem_append_right _ (List.mem_append_right _ (List.mem_append_right _ (List.mem_append_right _ (List.mem_append_right _ (List.mem_append_right _ (List.mem_append_right _ (List.mem_append_right _ (List.mem_append_left _ h)))))))))))))))))))))))))))))))))))))))))))))
theorem ic_33 : ∀ w ∈ wsL_law0_r33, w ∈ wsL_law0 := fun _ h => List.mem_append_left _ (List.mem_append_left _ (List.mem_append_left _ (List.mem_append_left _ (List.mem_append_left _ (List.mem_append_left _ (List.mem_append_left _ (List.mem_append_left _ (List.mem_append_left _ (List.mem_append_left _ (List.mem_append_left _ (List.mem_append_left _ (List.mem_append_left _ (List.mem_append_left _ (List.mem_append_right _ (List.mem_append_right _ (List.mem_append_right _ (List.mem_append_right _ (List.mem_append_right _ (List.mem_append_right _ (List.mem_append_right _ (List.mem_append_right _ (List.mem_append_right _ (List.mem_append_right _ (List.mem_append_right _ (List.mem_append_right _ (List.mem_append_right _ (List.mem_append_right _ (List.mem_append_right _ (List.mem_append_right _ (List.mem_append_right _ (List.mem_append_right _ (List.mem_append_right _ (List.mem_append_right _ (List.mem_append_right _ (List.mem_append_right _ (List.mem_append_right _ (List.mem_append_right _ (List.mem_append_right _ (List.mem_append_right _ (List.mem_append_right _ (List.mem_append_right _ (List.mem_append_right _ (List.mem_append_right _ (List.mem_append_right _ (List.mem_append_right _ (List.mem_append_left _ h))))))))))))))))))))))))))))))))))))))))))))))
theorem ic_34 : ∀ w ∈ wsL_law0_r34, w ∈ wsL_law0 := fun _ h => List.mem_append_left _ (List.mem_append_left _ (List.mem_append_left _ (List.mem_append_left _ (List.mem_append_left _ (List.mem_append_left _ (List.mem_append_left _ (List.mem_append_left _ (List.mem_append_left _ (List.mem_append_left _ (List.mem_append_left _ (List.mem_append_left _ (List.mem_append_left _ (List.mem_append_left _ (List.mem_append_right _ (List.mem_append_right _ (List.mem_append_right _ (List.mem_append_right _ (List.mem_append_right _ (List.mem_append_right _ (List.mem_append_right _ (List.mem_append_right _ (List.mem_append_right _ (List.mem_append_right _ (List.mem_append_right _ (List.mem_append_right _ (List.mem_append_right _ (List.mem_append_right _ (List.mem_append_right _ (List.mem_append_right _ (List.mem_append_right _ (List.mem_append_right _ (List.mem_append_right _ (List.mem_append_right _ (List.mem_append_right _ (List.mem_append_right _ (List.mem_append_right _ (List.mem_append_right _ (List.mem_append_right _ (List.mem_append_right _ (List.mem_append_right _ (List.mem_append_right _ (List.mem_append_right _ (List.mem_append_right _ (List.mem_append_right _ (List.mem_append_right _ (List.mem_append_right _ (List.mem_append_left _ h)))))))))))))))))))))))))))))))))))))))))))))))
theorem ic_35 : ∀ w ∈ wsL_law0_r35, w ∈ wsL_law0 := fun _ h => List.mem_append_left _ (List.mem_append_left _ (List.mem_append_left _ (List.mem_append_left _ (List.mem_append_left _ (List.mem_append_left _ (List.mem_append_left _ (List.mem_append_left _ (List.mem_append_left _ (List.mem_append_left _ (List.mem_append_left _ (List.mem_append_left _ (List.mem_append_left _ (List.mem_append_left _ (List.mem_append_right _ (List.mem_append_right _ (List.mem_append_right _ (List.mem_append_right _ (List.mem_append_right _ (List.mem_append_right _ (List.mem_append_right _ (List.mem_append_right _ (List.mem_append_right _ (List.mem_append_right _ (List.mem_append_right _ (List.mem_append_right _ (List.mem_append_right _ (List.mem_append_right _ (List.mem_append_right _ (List.mem_append_right _ (List.mem_append_right _ (List.mem_append_right _ (List.mem_append_right _ (List.mem_append_right _ (List.mem_append_right _ (List.mem_append_right _ (List.mem_append_right _ (List.mem_append_right _ (List.mem_append_right _ (List.mem_append_right _ (List.mem_append_right _ (List.mem_append_right _ (List.mem_append_right _ (List.mem_append_right _ (List.mem_append_right _ (List.mem_append_right _ (List.mem_append_right _ (List.mem_append_right _ (List.mem_append_left _ h))))))))))))))))))))))))))))))))))))))))))))))))
theorem ic_36 : ∀ w ∈ wsL_law0_r36, w ∈ wsL_law0 := fun _ h => List.mem_append_left _ (List.mem_append_left _ (List.mem_append_left _ (List.mem_append_left _ (List.mem_append_left _ (List.mem_append_left _ (List.mem_append_left _ (List.mem_append_left _ (List.mem_append_left _ (List.mem_append_left _ (List.mem_append_left _ (List.mem_append_left _ (List.mem_append_left _ (List.mem_append_left _ (List.mem_append_right _ (List.mem_append_right _ (List.mem_append_right _ (List.mem_append_right _ (List.mem_append_right _ (List.mem_append_right _ (List.mem_append_right _ (List.mem_append_right _ (List.mem_append_right _ (List.mem_append_right _ (List.mem_append_right _ (List.mem_append_right _ (List.mem_append_right _ (List.mem_append_right _ (List.mem_append_right _ (List.mem_append_right _ (List.mem_append_right _ (List.mem_append_right _ (List.mem_append_right _ (List.mem_append_right _ (List.mem_append_right _ (List.mem_append_right _ (List.mem_append_right _ (List.mem_append_right _ (List.mem_append_right _ (List.mem_append_right _ (List.mem_append_right _ (List.mem_append_right _ (List.mem_append_right _ (List.mem_append_right _ (List.mem_append_right _ (List.mem_append_right _ (List.mem_append_right _ (List.mem_append_right _ (List.mem_append_right _ (List.mem_append_left _ h)))))))))))))))))))))))))))))))))))))))))))))))))
theorem ic_37 : ∀ w ∈ wsL_law0_r37, w ∈ wsL_law0 := fun _ h => List.mem_append_left _ (List.mem_append_left _ (List.mem_append_left _ (List.mem_append_left _ (List.mem_append_left _ (List.mem_append_left _ (List.mem_append_left _ (List.mem_append_left _ (List.mem_append_left _ (List.mem_append_left _ (List.mem_append_left _ (List.mem_append_left _ (List.mem_append_left _ (List.mem_append_left _ (List.mem_append_right _ (List.mem_append_right _ (List.mem_append_right _ (List.mem_append_right _ (List.mem_append_right _ (List.mem_append_right _ (List.mem_append_right _ (List.mem_append_right _ (List.mem_append_right _ (List.mem_append_right _ (List.mem_append_right _ (List.mem_append_right _ (List.mem_append_right _ (List.mem_append_right _ (List.mem_append_right _ (List.mem_append_right _ (List.mem_append_right _ (List.mem_append_right _ (List.mem_append_right _ (List.mem_append_right _ (List.mem_append_right _ (List.mem_append_right _ (List.mem_append_right _ (List.mem_append_right _ (List.mem_append_right _ (List.mem_append_right _ (List.mem_append_right _ (List.mem_append_right _ (List.mem_append_right _ (List.mem_append_right _ (List.mem_append_right _ (List.mem_append_right _ (List.mem_append_right _ (List.mem_append_right _ (List.mem_append_right _ (List.mem_append_right _ (List.mem_append_left _ h))))))))))))))))))))))))))))))))))))))))))))))))))
theorem ic_38 : ∀ w ∈ wsL_law0_r38, w ∈ wsL_law0 := fun _ h => List.mem_append_left _ (List.mem_append_left _ (List.mem_append_left _ (List.mem_append_left _ (List.mem_append_left _ (List.mem_append_left _ (List.mem_append_left _ (List.mem_append_left _ (List.mem_append_left _ (List.mem_append_left _ (List.mem_append_left _ (List.mem_append_left _ (List.mem_append_left _ (List.mem_append_left _ (List.mem_append_right _ (List.mem_append_right _ (List.mem_append_right _ (List.mem_append_right _ (List.mem_append_right _ (List.mem_append_right _ (List.mem_append_right _ (List.mem_append_right _ (List.mem_append_right _ (List.mem_append_right _ (List.mem_append_right _ (List.mem_append_right _ (List.mem_append_right _ (List.mem_append_right _ (List.mem_append_right _ (List.mem_append_right _ (List.mem_append_right _ (List.mem_append_right _ (List.mem_append_right _ (List.mem_append_right _ (List.mem_append_right _ (List.mem_append_right _ (List.mem_append_right _ (List.mem_append_right _ (List.mem_append_right _ (List.mem_append_right _ (List.mem_append_right _ (List.mem_append_right _ (List.mem_append_right _ (List.mem_append_right _ (List.mem_append_right _ (List.mem_append_right _ (List.mem_append_right _ (List.mem_append_right _ (List.mem_append_right _ (List.mem_append_right _ (List.mem_append_right _ (List.mem_append_left _ h)))))))))))))))))))))))))))))))))))))))))))))))))))
theorem ic_39 : ∀ w ∈ wsL_law0_r39, w ∈ wsL_law0 := fun _ h => List.mem_append_left _ (List.mem_append_left _ (List.mem_append_left _ (List.mem_append_left _ (List.mem_append_left _ (List.mem_append_left _ (List.mem_append_left _ (List.mem_append_left _ (List.mem_append_left _ (List.mem_append_left _ (List.mem_append_left _ (List.mem_append_left _ (List.mem_append_left _ (List.mem_append_left _ (List.mem_append_right _ (List.mem_append_right _ (List.mem_append_right _ (List.mem_append_right _ (List.mem_append_right _ (List.mem_append_right _ (List.mem_append_right _ (List.mem_append_right _ (List.mem_append_right _ (List.mem_append_right _ (List.mem_append_right _ (List.mem_append_right _ (List.mem_append_right _ (List.mem_append_right _ (List.mem_append_right _ (List.mem_append_right _ (List.mem_append_right _ (List.mem_append_right _ (List.mem_append_right _ (List.mem_append_right _ (List.mem_append_right _ (List.mem_append_right _ (List.mem_append_right _ (List.mem_append_right _ (List.mem_append_right _ (List.mem_append_right _ (List.mem_append_right _ (List.mem_append_right _ (List.mem_append_right _ (List.mem_append_right _ (List.mem_append_right _ (List.mem_append_right _ (List.mem_append_right _ (List.mem_append_right _ (List.mem_append_right _ (List.mem_append_right _ (List.mem_append_right _ (List.mem_append_right _ (List.mem_append_left _ h))))))))))))))))))))))))))))))))))))))))))))))))))))
theorem ic_40 : ∀ w ∈ wsL_law0_r40, w ∈ wsL_law0 := fun _ h => List.mem_append_left _ (List.mem_append_left _ (List.mem_append_left _ (List.mem_append_left _ (List.mem_append_left _ (List.mem_append_left _ (List.mem_append_left _ (List.mem_append_left _ (List.mem_append_left _ (List.mem_append_left _ (List.mem_append_left _ (List.mem_append_left _ (List.mem_append_left _ (List.mem_append_left _ (List.mem_append_right _ (List.mem_append_right _ (List.mem_append_right _ (List.mem_append_right _ (List.mem_append_right _ (List.mem_append_right _ (List.mem_append_right _ (List.mem_append_right _ (List.mem_append_right _ (List.mem_append_right _ (List.mem_append_right _ (List.mem_append_right _ (List.mem_append_right _ (List.mem_append_right _ (List.mem_append_right _ (List.mem_append_right _ (List.mem_append_right _ (List.mem_append_right _ (List.mem_append_right _ (List.mem_append_right _ (List.mem_append_right _ (List.mem_append_right _ (List.mem_append_right _ (List.mem_append_right _ (List.mem_append_right _ (List.mem_append_right _ (List.mem_append_right _ (List.mem_append_right _ (List.mem_append_right _ (List.mem_append_right _ (List.mem_append_right _ (List.mem_append_right _ (List.mem_append_right _ (List.mem_append_right _ (List.mem_append_right _ (List.mem_append_right _ (List.mem_append_right _ (List.mem_append_right _ (List.mem_append_right _ (List.mem_append_left _ h)))))))))))))))))))))))))))))))))))))))))))))))))))))
theorem ic_41 : ∀ w ∈ wsL_law0_r41, w ∈ wsL_law0 := fun _ h => List.mem_append_left _ (List.mem_append_left _ (List.mem_append_left _ (List.mem_append_left _ (List.mem_append_left _ (List.mem_append_left _ (List.mem_append_left _ (List.mem_append_left _ (List.mem_append_left _ (List.mem_append_left _ (List.mem_append_left _ (List.mem_append_left _ (List.mem_append_left _ (List.mem_append_left _ (List.mem_append_right _ (List.mem_append_right _ (List.mem_append_right _ (List.mem_append_right _ (List.mem_append_right _ (List.mem_append_right _ (List.mem_append_right _ (List.mem_append_right _ (List.mem_append_right _ (List.mem_append_right _ (List.mem_append_right _ (List.mem_append_right _ (List.mem_append_right _ (List.mem_append_right _ (List.mem_append_right _ (List.mem_append_right _ (List.mem_append_right _ (List.mem_append_right _ (List.mem_append_right _ (List.mem_append_right _ (List.mem_append_right _ (List.mem_append_right _ (List.mem_append_right _ (List.mem_append_right _ (List.mem_append_right _ (List.mem_append_right _ (List.mem_append_right _ (List.mem_append_right _ (List.mem_append_right _ (List.mem_append_right _ (List.mem_append_right _ (List.mem_append_right _ (List.mem_append_right _ (List.mem_append_right _ (List.mem_append_right _ (List.mem_append_right _ (List.mem_append_right _ (List.mem_append_right _ (List.mem_append_right _ (List.mem_append_right _ (List.mem_append_left _ h))))))))))))))))))))))))))))))))))))))))))))))))))))))
theorem ic_42 : ∀ w ∈ wsL_law0_r42, w ∈ wsL_law0 := fun _ h => List.mem_append_left _ (List.mem_append_left _ (List.mem_append_left _ (List.mem_append_left _ (List.mem_append_left _ (List.mem_append_left _ (List.mem_append_left _ (List.mem_append_left _ (List.mem_append_left _ (List.mem_append_left _ (List.mem_append_left _ (List.mem_append_left _ (List.mem_append_left _ (List.mem_append_left _ (List.mem_append_right _ (List.mem_append_right _ (List.mem_append_right _ (List.mem_append_right _ (List.mem_append_right _ (List.mem_append_right _ (List.mem_append_right _ (List.mem_append_right _ (List.mem_append_right _ (List.mem_append_right _ (List.mem_append_right _ (List.mem_append_right _ (List.mem_append_right _ (List.mem_append_right _ (List.mem_append_right _ (List.mem_append_right _ (List.mem_append_right _ (List.mem_append_right _ (List.mem_append_right _ (List.mem_append_right _ (List.mem_append_right _ (List.mem_append_right _ (List.mem_append_right _ (List.mem_append_right _ (List.mem_append_right _ (List.mem_append_right _ (List.mem_append_right _ (List.mem_append_right _ (List.mem_append_right _ (List.mem_append_right _ (List.mem_append_right _ (List.mem_append_right _ (List.mem_append_right _ (List.mem_append_right _ (List.mem_append_right _ (List.mem_append_right _ (List.mem_append_right _ (List.mem_append_right _ (List.mem_append_right _ (List.mem_append_right _ (List.mem_append_right _ (List.mem_append_left _ h)))))))))))))))))))))))))))))))))))))))))))))))))))))))
theorem ic_43 : ∀ w ∈ wsL_law0_r43, w ∈ wsL_law0 := fun _ h => List.mem_append_left _ (List.mem_append_left _ (List.mem_append_left _ (List.mem_append_left _ (List.mem_append_left _ (List.mem_append_left _ (List.mem_append_left _ (List.mem_append_left _ (List.mem_append_left _ (List.mem_append_left _ (List.mem_append_left _ (List.mem_append_left _ (List.mem_append_left _ (List.mem_append_left _ (List.mem_append_right _ (List.mem_append_right _ (List.mem_append_right _ (List.mem_append_right _ (List.mem_append_right _ (List.mem_append_right _ (List.mem_append_right _ (List.mem_append_right _ (List.mem_append_right _ (List.mem_append_right _ (List.mem_append_right _ (List.mem_append_right _ (List.mem_append_right _ (List.mem_append_right _ (List.mem_append_right _ (List.mem_append_right _ (List.mem_append_right _ (List.mem_append_right _ (List.mem_append_right _ (List.mem_append_right _ (List.mem_append_right _ (List.mem_append_right _ (List.mem_append_right _ (List.mem_append_right _ (List.mem_append_right _ (List.mem_append_right _ (List.mem_append_right _ (List.mem_append_right _ (List.mem_append_right _ (List.mem_append_right _ (List.mem_append_right _ (List.mem_append_right _ (List.mem_append_right _ (List.mem_append_right _ (List.mem_append_right _ (List.mem_append_right _ (List.mem_append_right _ (List.mem_append_right _ (List.mem_append_right _ (List.mem_append_right _ (List.mem_append_right _ (List.mem_append_right _ (List.mem_append_left _ h))))))))))))))))))))))))))))))))))))))))))))))))))))))))
theorem ic_44 : ∀ w ∈ wsL_law0_r44, w ∈ wsL_law0 := fun _ h => List.mem_append_left _ (List.mem_append_left _ (List.mem_append_left _ (List.mem_append_left _ (List.mem_append_left _ (List.mem_append_left _ (List.mem_append_left _ (List.mem_append_left _ (List.mem_append_left _ (List.mem_append_left _ (List.mem_append_left _ (List.mem_append_left _ (List.mem_append_left _ (List.mem_append_left _ (List.mem_append_right _ (List.mem_append_right _ (List.mem_append_right _ (List.mem_append_right _ (List.mem_append_right _ (List.mem_append_right _ (List.mem_append_right _ (List.mem_append_right _ (List.mem_append_right _ (List.mem_append_right _ (List.mem_append_right _ (List.mem_append_right _ (List.mem_append_right _ (List.mem_append_right _ (List.mem_append_right _ (List.mem_append_right _ (List.mem_append_right _ (List.mem_append_right _ (List.mem_append_right _ (List.mem_append_right _ (List.mem_append_right _ (List.mem_append_right _ (List.mem_append_right _ (List.mem_append_right _ (List.mem_append_right _ (List.mem_append_right _ (List.mem_append_right _ (List.mem_append_right _ (List.mem_append_right _ (List.mem_append_right _ (List.mem_append_right _ (List.mem_append_right _ (List.mem_append_right _ (List.mem_append_right _ (List.mem_append_right _ (List.mem_append_right _ (List.mem_append_right _ (List.mem_append_right _ (List.mem_append_right _ (List.mem_append_right _ (List.mem_append_right _ (List.mem_append_right _ (List.mem_append_right _ (List.mem_append_left _ h)))))))))))))))))))))))))))))))))))))))))))))))))))))))))
theorem ic_45 : ∀ w ∈ wsL_law0_r45, w ∈ wsL_law0 := fun _ h => List.mem_append_left _ (List.mem_append_left _ (List.mem_append_left _ (List.mem_append_left _ (List.mem_append_left _ (List.mem_append_left _ (List.mem_append_left _ (List.mem_append_left _ (List.mem_append_left _ (List.mem_append_left _ (List.mem_append_left _ (List.mem_append_left _ (List.mem_append_left _ (List.mem_append_left _ (List.mem_append_right _ (List.mem_append_right _ (List.mem_append_right _ (List.mem_append_right _ (List.mem_append_right _ (List.mem_append_right _ (List.mem_append_right _ (List.mem_append_right _ (List.mem_append_right _ (List.mem_append_right _ (List.mem_append_right _ (List.mem_append_right _ (List.mem_append_right _ (List.mem_append_right _ (List.mem_append_right _ (List.mem_append_right _ (List.mem_append_right _ (List.mem_append_right _ (List.mem_append_right _ (List.mem_append_right _ (List.mem_append_right _ (List.mem_append_right _ (List.mem_append_right _ (List.mem_append_right _ (List.mem_append_right _ (List.mem_append_right _ (List.mem_append_right _ (List.mem_append_right _ (List.mem_append_right _ (List.mem_append_right _ (List.mem_append_right _ (List.mem_append_right _ (List.mem_append_right _ (List.mem_append_right _ (List.mem_append_right _ (List.mem_append_right _ (List.mem_append_right _ (List.mem_append_right _ (List.mem_append_right _ (List.mem_append_right _ (List.mem_append_right _ (List.mem_append_right _ (List.mem_append_right _ (List.mem_append_right _ (List.mem_append_left _ h))))))))))))))))))))))))))))))))))))))))))))))))))))))))))
theorem ic_46 : ∀ w ∈ wsL_law0_r46, w ∈ wsL_law0 := fun _ h => List.mem_append_left _ (List.mem_append_left _ (List.mem_append_left _ (List.mem_append_left _ (List.mem_append_left _ (List.mem_append_left _ (List.mem_append_left _ (List.mem_append_left _ (List.mem_append_left _ (List.mem_append_left _ (List.mem_append_left _ (List.mem_append_left _ (List.mem_append_left _ (List.mem_append_left _ (List.mem_append_right _ (List.mem_append_right _ (List.mem_append_right _ (List.mem_append_right _ (List.mem_append_right _ (List.mem_append_right _ (List.mem_append_right _ (List.mem_append_right _ (List.mem_append_right _ (List.mem_append_right _ (List.mem_append_right _ (List.mem_append_right _ (List.mem_append_right _ (List.mem_append_right _ (List.mem_append_right _ (List.mem_append_right _ (List.mem_append_right _ (List.mem_append_right _ (List.mem_append_right _ (List.mem_append_right _ (List.mem_append_right _ (List.mem_append_right _ (List.mem_append_right _ (List.mem_append_right _ (List.mem_append_right _ (List.mem_append_right _ (List.mem_append_right _ (List.mem_append_right _ (List.mem_append_right _ (List.mem_append_right _ (List.mem_append_right _ (List.mem_append_right _ (List.mem_append_right _ (List.mem_append_right _ (List.mem_append_right _ (List.mem_append_right _ (List.mem_append_right _ (List.mem_append_right _ (List.mem_append_right _ (List.mem_append_right _ (List.mem_append_right _ (List.mem_append_right _ (List.mem_append_right _ (List.mem_append_right _ (List.mem_append_right _ (List.mem_append_left _ h)))))))))))))))))))))))))))))))))))))))))))))))))))))))))))
theorem ic_47 : ∀ w ∈ wsL_law0_r47, w ∈ wsL_law0 := fun _ h => List.mem_append_left _ (List.mem_append_left _ (List.mem_append_left _ (List.mem_append_left _ (List.mem_append_left _ (List.mem_append_left _ (List.mem_append_left _ (List.mem_append_left _ (List.mem_append_left _ (List.mem_append_left _ (List.mem_append_left _ (List.mem_append_left _ (List.mem_append_left _ (List.mem_append_left _ (List.mem_append_right _ (List.mem_append_right _ (List.mem_append_right _ (List.mem_append_right _ (List.mem_append_right _ (List.mem_append_right _ (List.mem_append_right _ (List.mem_append_right _ (List.mem_append_right _ (List.mem_append_right _ (List.mem_append_right _ (List.mem_append_right _ (List.mem_append_right _ (List.mem_append_right _ (List.mem_append_right _ (List.mem_append_right _ (List.mem_append_right _ (List.mem_append_right _ (List.mem_append_right _ (List.mem_append_right _ (List.mem_append_right _ (List.mem_append_right _ (List.mem_append_right _ (List.mem_append_right _ (List.mem_append_right _ (List.mem_append_right _ (List.mem_append_right _ (List.mem_append_right _ (List.mem_append_right _ (List.mem_append_right _ (List.mem_append_right _ (List.mem_append_right _ (List.mem_append_right _ (List.mem_append_right _ (List.mem_append_right _ (List.mem_append_right _ (List.mem_append_right _ (List.mem_append_right _ (List.mem_append_right _ (List.mem_append_right _ (List.mem_append_right _ (List.mem_append_right _ (List.mem_append_right _ (List.mem_append_right _ (List.mem_append_right _ (List.mem_append_right _ (List.mem_append_left _ h))))))))))))))))))))))))))))))))))))))))))))))))))))))))))))
theorem ic_48 : ∀ w ∈ wsL_law0_r48, w ∈ wsL_law0 := fun _ h => List.mem_append_left _ (List.mem_append_left _ (List.mem_append_left _ (List.mem_append_left _ (List.mem_append_left _ (List.mem_append_left _ (List.mem_append_left _ (List.mem_append_left _ (List.mem_append_left _ (List.mem_append_left _ (List.mem_append_left _ (List.mem_append_left _ (List.mem_append_left _ (List.mem_append_left _ (List.mem_append_right _ (List.mem_append_right _ (List.mem_append_right _ (List.mem_append_right _ (List.mem_append_right _ (List.mem_append_right _ (List.mem_append_right _ (List.mem_append_right _ (List.mem_append_right _ (List.mem_append_right _ (List.mem_append_right _ (List.mem_append_right _ (List.mem_append_right _ (List.mem_append_right _ (List.mem_append_right _ (List.mem_append_right _ (List.mem_append_right _ (List.mem_append_right _ (List.mem_append_right _ (List.mem_append_right _ (List.mem_append_right _ (List.mem_append_right _ (List.mem_append_right _ (List.mem_append_right _ (List.mem_append_right _ (List.mem_append_right _ (List.mem_append_right _ (List.mem_append_right _ (List.mem_append_right _ (List.mem_append_right _ (List.mem_append_right _ (List.mem_append_right _ (List.mem_append_right _ (List.mem_append_right _ (List.mem_append_right _ (List.mem_append_right _ (List.mem_append_right _ (List.mem_append_right _ (List.mem_append_right _ (List.mem_append_right _ (List.mem_append_right _ (List.mem_append_right _ (List.mem_append_right _ (List.mem_append_right _ (List.mem_append_right _ (List.mem_append_right _ (List.mem_append_right _ (List.mem_append_left _ h)))))))))))))))))))))))))))))))))))))))))))))))))))))))))))))
theorem ic_49 : ∀ w ∈ wsL_law0_r49, w ∈ wsL_law0 := fun _ h => List.mem_append_left _ (List.mem_append_left _ (List.mem_append_left _ (List.mem_append_left _ (List.mem_append_left _ (List.mem_append_left _ (List.mem_append_left _ (List.mem_append_left _ (List.mem_append_left _ (List.mem_append_left _ (List.mem_append_left _ (List.mem_append_left _ (List.mem_append_left _ (List.mem_append_left _ (List.mem_append_right _ (List.mem_append_right _ (List.mem_append_right _ (List.mem_append_right _ (List.mem_append_right _ (List.mem_append_right _ (List.mem_append_right _ (List.mem_append_right _ (List.mem_append_right _ (List.mem_append_right _ (List.mem_append_right _ (List.mem_append_right _ (List.mem_append_right _ (List.mem_append_right _ (List.mem_append_right _ (List.mem_append_right _ (List.mem_append_right _ (List.mem_append_right _ (List.mem_append_right _ (List.mem_append_right _ (List.mem_append_right _ (List.mem_append_right _ (List.mem_append_right _ (List.mem_append_right _ (List.mem_append_right _ (List.mem_append_right _ (List.mem_append_right _ (List.mem_append_right _ (List.mem_append_right _ (List.mem_append_right _ (List.mem_append_right _ (List.mem_append_right _ (List.mem_append_right _ (List.mem_append_right _ (List.mem_append_right _ (List.mem_append_right _ (List.mem_append_right _ (List.mem_append_right _ (List.mem_append_right _ (List.mem_append_right _ (List.mem_append_right _ (List.mem_append_right _ (List.mem_append_right _ (List.mem_append_right _ (List.mem_append_right _ (List.mem_append_right _ (List.mem_append_right _ (List.mem_append_right _ (List.mem_append_left _ h))))))))))))))))))))))))))))))))))))))))))))))))))))))))))))))
theorem ic_50 : ∀ w ∈ wsL_law0_r50, w ∈ wsL_law0 := fun _ h => List.mem_append_left _ (List.mem_append_left _ (List.mem_append_left _ (List.mem_append_left _ (List.mem_append_left _ (List.mem_append_left _ (List.mem_append_left _ (List.mem_append_left _ (List.mem_append_left _ (List.mem_append_left _ (List.mem_append_left _ (List.mem_append_left _ (List.mem_append_left _ (List.mem_append_left _ (List.mem_append_right _ (List.mem_append_right _ (List.mem_append_right _ (List.mem_append_right _ (List.mem_append_right _ (List.mem_append_right _ (List.mem_append_right _ (List.mem_append_right _ (List.mem_append_right _ (List.mem_append_right _ (List.mem_append_right _ (List.mem_append_right _ (List.mem_append_right _ (List.mem_append_right _ (List.mem_append_right _ (List.mem_append_right _ (List.mem_append_right _ (List.mem_append_right _ (List.mem_append_right _ (List.mem_append_right _ (List.mem_append_right _ (List.mem_append_right _ (List.mem_append_right _ (List.mem_append_right _ (List.mem_append_right _ (List.mem_append_right _ (List.mem_append_right _ (List.mem_append_right _ (List.mem_append_right _ (List.mem_append_right _ (List.mem_append_right _ (List.mem_append_right _ (List.mem_append_right _ (List.mem_append_right _ (List.mem_append_right _ (List.mem_append_right _ (List.mem_append_right _ (List.mem_append_right _ (List.mem_append_right _ (List.mem_append_right _ (List.mem_append_right _ (List.mem_append_right _ (List.mem_append_right _ (List.mem_append_right _ (List.mem_append_right _ (List.mem_append_right _ (List.mem_append_right _ (List.mem_append_right _ (List.mem_append_right _ (List.mem_append_left _ h)))))))))))))))))))))))))))))))))))))))))))))))))))))))))))))))
theorem ic_51 : ∀ w ∈ wsL_law0_r51, w ∈ wsL_law0 := fun _ h => List.mem_append_left _ (List.mem_append_left _ (List.mem_append_left _ (List.mem_append_left _ (List.mem_append_left _ (List.mem_append_left _ (List.mem_append_left _ (List.mem_append_left _ (List.mem_append_left _ (List.mem_append_left _ (List.mem_append_left _ (List.mem_append_left _ (List.mem_append_left _ (List.mem_append_left _ (List.mem_append_right _ (List.mem_append_right _ (List.mem_append_right _ (List.mem_append_right _ (List.mem_append_right _ (List.mem_append_right _ (List.mem_append_right _ (List.mem_append_right _ (List.mem_append_right _ (List.mem_append_right _ (List.mem_append_right _ (List.mem_append_right _ (List.mem_append_right _ (List.mem_append_right _ (List.mem_append_right _ (List.mem_append_right _ (List.mem_append_right _ (List.mem_append_right _ (List.mem_append_right _ (List.mem_append_right _ (List.mem_append_right _ (List.mem_append_right _ (List.mem_append_right _ (List.mem_append_right _ (List.mem_append_right _ (List.mem_append_right _ (List.mem_append_right _ (List.mem_append_right _ (List.mem_append_right _ (List.mem_append_right _ (List.mem_append_right _ (List.mem_append_right _ (List.mem_append_right _ (List.mem_append_right _ (List.mem_append_right _ (List.mem_append_right _ (List.mem_append_right _ (List.mem_append_right _ (List.mem_append_right _ (List.mem_append_right _ (List.mem_append_right _ (List.mem_append_right _ (List.mem_append_right _ (List.mem_append_right _ (List.mem_append_right _ (List.mem_append_right _ (List.mem_append_right _ (List.mem_append_right _ (List.mem_append_right _ (List.mem_append_right _ (List.mem_append_left _ h))))))))))))))))))))))))))))))))))))))))))))))))))))))))))))))))
theorem ic_52 : ∀ w ∈ wsL_law0_r52, w ∈ wsL_law0 := fun _ h => List.mem_append_left _ (List.mem_append_left _ (List.mem_append_left _ (List.mem_append_left _ (List.mem_append_left _ (List.mem_append_left _ (List.mem_append_left _ (List.mem_append_left _ (List.mem_append_left _ (List.mem_append_left _ (List.mem_append_left _ (List.mem_append_left _ (List.mem_append_left _ (List.mem_append_left _ (List.mem_append_right _ (List.mem_append_right _ (List.mem_append_right _ (List.mem_append_right _ (List.mem_append_right _ (List.mem_append_right _ (List.mem_append_right _ (List.mem_append_right _ (List.mem_append_right _ (List.mem_append_right _ (List.mem_append_right _ (List.mem_append_right _ (List.mem_append_right _ (List.mem_append_right _ (List.mem_append_right _ (List.mem_append_right _ (List.mem_append_right _ (List.mem_append_right _ (List.mem_append_right _ (List.mem_append_right _ (List.mem_append_right _ (List.mem_append_right _ (List.mem_append_right _ (List.mem_append_right _ (List.mem_append_right _ (List.mem_append_right _ (List.mem_append_right _ (List.mem_append_right _ (List.mem_append_right _ (List.mem_append_right _ (List.mem_append_right _ (List.mem_append_right _ (List.mem_append_right _ (List.mem_append_right _ (List.mem_append_right _ (List.mem_append_right _ (List.mem_append_right _ (List.mem_append_right _ (List.mem_append_right _ (List.mem_append_right _ (List.mem_append_right _ (List.mem_append_right _ (List.mem_append_right _ (List.mem_append_right _ (List.mem_append_right _ (List.mem_append_right _ (List.mem_append_right _ (List.mem_append_right _ (List.mem_append_right _ (List.mem_append_right _ (List.mem_append_right _ (List.mem_append_left _ h)))))))))))))))))))))))))))))))))))))))))))))))))))))))))))))))))
theorem ic_53 : ∀ w ∈ wsL_law0_r53, w ∈ wsL_law0 := fun _ h => List.mem_append_left _ (List.mem_append_left _ (List.mem_append_left _ (List.mem_append_left _ (List.mem_append_left _ (List.mem_append_left _ (List.mem_append_left _ (List.mem_append_left _ (List.mem_append_left _ (List.mem_append_left _ (List.mem_append_left _ (List.mem_append_left _ (List.mem_append_left _ (List.mem_append_left _ (List.mem_append_right _ (List.mem_append_right _ (List.mem_append_right _ (List.mem_append_right _ (List.mem_append_right _ (List.mem_append_right _ (List.mem_append_right _ (List.mem_append_right _ (List.mem_append_right _ (List.mem_append_right _ (List.mem_append_right _ (List.mem_append_right _ (List.mem_append_right _ (List.mem_append_right _ (List.mem_append_right _ (List.mem_append_right _ (List.mem_append_right _ (List.mem_append_right _ (List.mem_append_right _ (List.mem_append_right _ (List.mem_append_right _ (List.mem_append_right _ (List.mem_append_right _ (List.mem_append_right _ (List.mem_append_right _ (List.mem_append_right _ (List.mem_append_right _ (List.mem_append_right _ (List.mem_append_right _ (List.mem_append_right _ (List.mem_append_right _ (List.mem_append_right _ (List.mem_append_right _ (List.mem_append_right _ (List.mem_append_right _ (List.mem_append_right _ (List.mem_append_right _ (List.mem_append_right _ (List.mem_append_right _ (List.mem_append_right _ (List.mem_append_right _ (List.mem_append_right _ (List.mem_append_right _ (List.mem_append_right _ (List.mem_append_right _ (List.mem_append_right _ (List.mem_append_right _ (List.mem_append_right _ (List.mem_append_right _ (List.mem_append_right _ (List.mem_append_right _ (List.mem_append_right _ (List.mem_append_left _ h))))))))))))))))))))))))))))))))))))))))))))))))))))))))))))))))))
theorem ic_54 : ∀ w ∈ wsL_law0_r54, w ∈ wsL_law0 := fun _ h => List.mem_append_left _ (List.mem_append_left _ (List.mem_append_left _ (List.mem_append_left _ (List.mem_append_left _ (List.mem_append_left _ (List.mem_append_left _ (List.mem_append_left _ (List.mem_append_left _ (List.mem_append_left _ (List.mem_append_left _ (List.mem_append_left _ (List.mem_append_left _ (List.mem_append_left _ (List.mem_append_right _ (List.mem_append_right _ (List.mem_append_right _ (List.mem_append_right _ (List.mem_append_right _ (List.mem_append_right _ (List.mem_append_right _ (List.mem_append_right _ (List.mem_append_right _ (List.mem_append_right _ (List.mem_append_right _ (List.mem_append_right _ (List.mem_append_right _ (List.mem_append_right _ (List.mem_append_right _ (List.mem_append_right _ (List.mem_append_right _ (List.mem_append_right _ (List.mem_append_right _ (List.mem_append_right _ (List.mem_append_right _ (List.mem_append_right _ (List.mem_append_right _ (List.mem_append_right _ (List.mem_append_right _ (List.mem_append_right _ (List.mem_append_right _ (List.mem_append_right _ (List.mem_append_right _ (List.mem_append_right _ (List.mem_append_right _ (List.mem_append_right _ (List.mem_append_right _ (List.mem_append_right _ (List.mem_append_right _ (List.mem_append_right _ (List.mem_append_right _ (List.mem_append_right _ (List.mem_append_right _ (List.mem_append_right _ (List.mem_append_right _ (List.mem_append_right _ (List.mem_append_right _ (List.mem_append_right _ (List.mem_append_right _ (List.mem_append_right _ (List.mem_append_right _ (List.mem_append_right _ (List.mem_append_right _ (List.mem_append_right _ (List.mem_append_right _ (List.mem_append_right _ (List.mem_append_right _ (List.mem_append_left _ h)))))))))))))))))))))))))))))))))))))))))))))))))))))))))))))))))))
theorem ic_55 : ∀ w ∈ wsL_law0_r55, w ∈ wsL_law0 := fun _ h => List.mem_append_left _ (List.mem_append_left _ (List.mem_append_left _ (List.mem_append_left _ (List.mem_append_left _ (List.mem_append_left _ (List.mem_append_left _ (List.mem_append_left _ (List.mem_append_left _ (List.mem_append_left _ (List.mem_append_left _ (List.mem_append_left _ (List.mem_append_left _ (List.mem_append_left _ (List.mem_append_right _ (List.mem_append_right _ (List.mem_append_right _ (List.mem_append_right _ (List.mem_append_right _ (List.mem_append_right _ (List.mem_append_right _ (List.mem_append_right _ (List.mem_append_right _ (List.mem_append_right _ (List.mem_append_right _ (List.mem_append_right _ (List.mem_append_right _ (List.mem_append_right _ (List.mem_append_right _ (List.mem_append_right _ (List.mem_append_right _ (List.mem_append_right _ (List.mem_append_right _ (List.mem_append_right _ (List.mem_append_right _ (List.mem_append_right _ (List.mem_append_right _ (List.mem_append_right _ (List.mem_append_right _ (List.mem_append_right _ (List.mem_append_right _ (List.mem_append_right _ (List.mem_append_right _ (List.mem_append_right _ (List.mem_append_right _ (List.mem_append_right _ (List.mem_append_right _ (List.mem_append_right _ (List.mem_append_right _ (List.mem_append_right _ (List.mem_append_right _ (List.mem_append_right _ (List.mem_append_right _ (List.mem_append_right _ (List.mem_append_right _ (List.mem_append_right _ (List.mem_append_right _ (List.mem_append_right _ (List.mem_append_right _ (List.mem_append_right _ (List.mem_append_right _ (List.mem_append_right _ (List.mem_append_right _ (List.mem_append_right _ (List.mem_append_right _ (List.mem_append_right _ (List.mem_append_right _ (List.mem_append_right _ (List.mem_append_left _ h))))))))))))))))))))))))))))))))))))))))))))))))))))))))))))))))))))
theorem ic_56 : ∀ w ∈ wsL_law0_r56, w ∈ wsL_law0 := fun _ h => List.mem_append_left _ (List.mem_append_left _ (List.mem_append_left _ (List.mem_append_left _ (List.mem_append_left _ (List.mem_append_left _ (List.mem_append_left _ (List.mem_append_left _ (List.mem_append_left _ (List.mem_append_left _ (List.mem_append_left _ (List.mem_append_left _ (List.mem_append_left _ (List.mem_append_left _ (List.mem_append_right _ (List.mem_append_right _ (List.mem_append_right _ (List.mem_append_right _ (List.mem_append_right _ (List.mem_append_right _ (List.mem_append_right _ (List.mem_append_right _ (List.mem_append_right _ (List.mem_append_right _ (List.mem_append_right _ (List.mem_append_right _ (List.mem_append_right _ (List.mem_append_right _ (List.mem_append_right _ (List.mem_append_right _ (List.mem_append_right _ (List.mem_append_right _ (List.mem_append_right _ (List.mem_append_right _ (List.mem_append_right _ (List.mem_append_right _ (List.mem_append_right _ (List.mem_append_right _ (List.mem_append_right _ (List.mem_append_right _ (List.mem_append_right _ (List.mem_append_right _ (List.mem_append_right _ (List.mem_append_right _ (List.mem_append_right _ (List.mem_append_right _ (List.mem_append_right _ (List.mem_append_right _ (List.mem_append_right _ (List.mem_append_right _ (List.mem_append_right _ (List.mem_append_right _ (List.mem_append_right _ (List.mem_append_right _ (List.mem_append_right _ (List.mem_append_right _ (List.mem_append_right _ (List.mem_append_right _ (List.mem_append_right _ (List.mem_append_right _ (List.mem_append_right _ (List.mem_append_right _ (List.mem_append_right _ (List.mem_append_right _ (List.mem_append_right _ (List.mem_append_right _ (List.mem_append_right _ (List.mem_append_right _ (List.mem_append_right _ (List.mem_append_left _ h)))))))))))))))))))))))))))))))))))))))))))))))))))))))))))))))))))))
theorem ic_57 : ∀ w ∈ wsL_law0_r57, w ∈ wsL_law0 := fun _ h => List.mem_append_left _ (List.mem_append_left _ (List.mem_append_left _ (List.mem_append_left _ (List.mem_append_left _ (List.mem_append_left _ (List.mem_append_left _ (List.mem_append_left _ (List.mem_append_left _ (List.mem_append_left _ (List.mem_append_left _ (List.mem_append_left _ (List.mem_append_left _ (List.mem_append_left _ (List.mem_append_right _ (List.mem_append_right _ (List.mem_append_right _ (List.mem_append_right _ (List.mem_append_right _ (List.mem_append_right _ (List.mem_append_right _ (List.mem_append_right _ (List.mem_append_right _ (List.mem_append_right _ (List.mem_append_right _ (List.mem_append_right _ (List.mem_append_right _ (List.mem_append_right _ (List.mem_append_right _ (List.mem_append_right _ (List.mem_append_right _ (List.mem_append_right _ (List.mem_append_right _ (List.mem_append_right _ (List.mem_append_right _ (List.mem_append_right _ (List.mem_append_right _ (List.mem_append_right _ (List.mem_append_right _ (List.mem_append_right _ (List.mem_append_right _ (List.mem_append_right _ (List.mem_append_right _ (List.mem_append_right _ (List.mem_append_right _ (List.mem_append_right _ (List.mem_append_right _ (List.mem_append_right _ (List.mem_append_right _ (List.mem_append_right _ (List.mem_append_right _ (List.mem_append_right _ (List.mem_append_right _ (List.mem_append_right _ (List.mem_append_right _ (List.mem_append_right _ (List.mem_append_right _ (List.mem_append_right _ (List.mem_append_right _ (List.mem_append_right _ (List.mem_append_right _ (List.mem_append_right _ (List.mem_append_right _ (List.mem_append_right _ (List.mem_append_right _ (List.mem_append_right _ (List.mem_append_right _ (List.mem_append_right _ (List.mem_append_right _ (List.mem_append_right _ (List.mem_append_left _ h))))))))))))))))))))))))))))))))))))))))))))))))))))))))))))))))))))))
theorem ic_58 : ∀ w ∈ wsL_law0_r58, w ∈ wsL_law0 := fun _ h => List.mem_append_left _ (List.mem_append_left _ (List.mem_append_left _ (List.mem_append_left _ (List.mem_append_left _ (List.mem_append_left _ (List.mem_append_left _ (List.mem_append_left _ (List.mem_append_left _ (List.mem_append_left _ (List.mem_append_left _ (List.mem_append_left _ (List.mem_append_left _ (List.mem_append_left _ (List.mem_append_right _ (List.mem_append_right _ (List.mem_append_right _ (List.mem_append_right _ (List.mem_append_right _ (List.mem_append_right _ (List.mem_append_right _ (List.mem_append_right _ (List.mem_append_right _ (List.mem_append_right _ (List.mem_append_right _ (List.mem_append_right _ (List.mem_append_right _ (List.mem_append_right _ (List.mem_append_right _ (List.mem_append_right _ (List.mem_append_right _ (List.mem_append_right _ (List.mem_append_right _ (List.mem_append_right _ (List.mem_append_right _ (List.mem_append_right _ (List.mem_append_right _ (List.mem_append_right _ (List.mem_append_right _ (List.mem_append_right _ (List.mem_append_right _ (List.mem_append_right _ (List.mem_append_right _ (List.mem_append_right _ (List.mem_append_right _ (List.mem_append_right _ (List.mem_append_right _ (List.mem_append_right _ (List.mem_append_right _ (List.mem_append_right _ (List.mem_append_right _ (List.mem_append_right _ (List.mem_append_right _ (List.mem_append_right _ (List.mem_append_right _ (List.mem_append_right _ (List.mem_append_right _ (List.mem_append_right _ (List.mem_append_right _ (List.mem_append_right _ (List.mem_append_right _ (List.mem_append_right _ (List.mem_append_right _ (List.mem_append_right _ (List.mem_append_right _ (List.mem_append_right _ (List.mem_append_right _ (List.mem_append_right _ (List.mem_append_right _ (List.mem_append_right _ (List.mem_append_right _ (List.mem_append_left _ h)))))))))))))))))))))))))))))))))))))))))))))))))))))))))))))))))))))))
theorem ic_59 : ∀ w ∈ wsL_law0_r59, w ∈ wsL_law0 := fun _ h => List.mem_append_left _ (List.mem_append_left _ (List.mem_append_left _ (List.mem_append_left _ (List.mem_append_left _ (List.mem_append_left _ (List.mem_append_left _ (List.mem_append_left _ (List.mem_append_left _ (List.mem_append_left _ (List.mem_append_left _ (List.mem_append_left _ (List.mem_append_left _ (List.mem_append_left _ (List.mem_append_right _ (List.mem_append_right _ (List.mem_append_right _ (List.mem_append_right _ (List.mem_append_right _ (List.mem_append_right _ (List.mem_append_right _ (List.mem_append_right _ (List.mem_append_right _ (List.mem_append_right _ (List.mem_append_right _ (List.mem_append_right _ (List.mem_append_right _ (List.mem_append_right _ (List.mem_append_right _ (List.mem_append_right _ (List.mem_append_right _ (List.mem_append_right _ (List.mem_append_right _ (List.mem_append_right _ (List.mem_append_right _ (List.mem_append_right _ (List.mem_append_right _ (List.mem_append_right _ (List.mem_append_right _ (List.mem_append_right _ (List.mem_append_right _ (List.mem_append_right _ (List.mem_append_right _ (List.mem_append_right _ (List.mem_append_right _ (List.mem_append_right _ (List.mem_append_right _ (List.mem_append_right _ (List.mem_append_right _ (List.mem_append_right _ (List.mem_append_right _ (List.mem_append_right _ (List.mem_append_right _ (List.mem_append_right _ (List.mem_append_right _ (List.mem_append_right _ (List.mem_append_right _ (List.mem_append_right _ (List.mem_append_right _ (List.mem_append_right _ (List.mem_append_right _ (List.mem_append_right _ (List.mem_append_right _ (List.mem_append_right _ (List.mem_append_right _ (List.mem_append_right _ (List.mem_append_right _ (List.mem_append_right _ (List.mem_append_right _ (List.mem_append_right _ (List.mem_append_right _ (List.mem_append_right _ (List.mem_append_left _ h))))))))))))))))))))))))))))))))))))))))))))))))))))))))))))))))))))))))
theorem ic_60 : ∀ w ∈ wsL_law0_r60, w ∈ wsL_law0 := fun _ h => List.mem_append_left _ (List.mem_append_left _ (List.mem_append_left _ (List.mem_append_left _ (List.mem_append_left _ (List.mem_append_left _ (List.mem_append_left _ (List.mem_append_left _ (List.mem_append_left _ (List.mem_append_left _ (List.mem_append_left _ (List.mem_append_left _ (List.mem_append_left _ (List.mem_append_left _ (List.mem_append_right _ (List.mem_append_right _ (List.mem_append_right _ (List.mem_append_right _ (List.mem_append_right _ (List.mem_append_right _ (List.mem_append_right _ (List.mem_append_right _ (List.mem_append_right _ (List.mem_append_right _ (List.mem_append_right _ (List.mem_append_right _ (List.mem_append_right _ (List.mem_append_right _ (List.mem_append_right _ (List.mem_append_right _ (List.mem_append_right _ (List.mem_append_right _ (List.mem_append_right _ (List.mem_append_right _ (List.mem_append_right _ (List.mem_append_right _ (List.mem_append_right _ (List.mem_append_right _ (List.mem_append_right _ (List.mem_append_right _ (List.mem_append_right _ (List.mem_append_right _ (List.mem_append_right _ (List.mem_append_right _ (List.mem_append_right _ (List.mem_append_right _ (List.mem_append_right _ (List.mem_append_right _ (List.mem_append_right _ (List.mem_append_right _ (List.mem_append_right _ (List.mem_append_right _ (List.mem_append_right _ (List.mem_append_right _ (List.mem_append_right _ (List.mem_append_right _ (List.mem_append_right _ (List.mem_append_right _ (List.mem_append_right _ (List.mem_append_right _ (List.mem_append_right _ (List.mem_append_right _ (List.mem_append_right _ (List.mem_append_right _ (List.mem_append_right _ (List.mem_append_right _ (List.mem_append_right _ (List.mem_append_right _ (List.mem_append_right _ (List.mem_append_right _ (List.mem_append_right _ (List.mem_append_right _ (List.mem_append_right _ (List.mem_append_left _ h)))))))))))))))))))))))))))))))))))))))))))))))))))))))))))))))))))))))))
theorem ic_61 : ∀ w ∈ wsL_law0_r61, w ∈ wsL_law0 := fun _ h => List.mem_append_left _ (List.mem_append_left _ (List.mem_append_left _ (List.mem_append_left _ (List.mem_append_left _ (List.mem_append_left _ (List.mem_append_left _ (List.mem_append_left _ (List.mem_append_left _ (List.mem_append_left _ (List.mem_append_left _ (List.mem_append_left _ (List.mem_append_left _ (List.mem_append_left _ (List.mem_append_right _ (List.mem_append_right _ (List.mem_append_right _ (List.mem_append_right _ (List.mem_append_right _ (List.mem_append_right _ (List.mem_append_right _ (List.mem_append_right _ (List.mem_append_right _ (List.mem_append_right _ (List.mem_append_right _ (List.mem_append_right _ (List.mem_append_right _ (List.mem_append_right _ (List.mem_append_right _ (List.mem_append_right _ (List.mem_append_right _ (List.mem_append_right _ (List.mem_append_right _ (List.mem_append_right _ (List.mem_append_right _ (List.mem_append_right _ (List.mem_append_right _ (List.mem_append_right _ (List.mem_append_right _ (List.mem_append_right _ (List.mem_append_right _ (List.mem_append_right _ (List.mem_append_right _ (List.mem_append_right _ (List.mem_append_right _ (List.mem_append_right _ (List.mem_append_right _ (List.mem_append_right _ (List.mem_append_right _ (List.mem_append_right _ (List.mem_append_right _ (List.mem_append_right _ (List.mem_append_right _ (List.mem_append_right _ (List.mem_append_right _ (List.mem_append_right _ (List.mem_append_right _ (List.mem_append_right _ (List.mem_append_right _ (List.mem_append_right _ (List.mem_append_right _ (List.mem_append_right _ (List.mem_append_right _ (List.mem_append_right _ (List.mem_append_right _ (List.mem_append_right _ (List.mem_append_right _ (List.mem_append_right _ (List.mem_append_right _ (List.mem_append_right _ (List.mem_append_right _ (List.mem_append_right _ (List.mem_append_right _ (List.mem_append_right _ (List.mem_append_left _ h))))))))))))))))))))))))))))))))))))))))))))))))))))))))))))))))))))))))))
theorem ic_62 : ∀ w ∈ wsL_law0_r62, w ∈ wsL_law0 := fun _ h => List.mem_append_left _ (List.mem_append_left _ (List.mem_append_left _ (List.mem_append_left _ (List.mem_append_left _ (List.mem_append_left _ (List.mem_append_left _ (List.mem_append_left _ (List.mem_append_left _ (List.mem_append_left _ (List.mem_append_left _ (List.mem_append_left _ (List.mem_append_left _ (List.mem_append_left _ (List.mem_append_right _ (List.mem_append_right _ (List.mem_append_right _ (List.mem_append_right _ (List.mem_append_right _ (List.mem_append_right _ (List.mem_append_right _ (List.mem_append_right _ (List.mem_append_right _ (List.mem_append_right _ (List.mem_append_right _ (List.mem_append_right _ (List.mem_append_right _ (List.mem_append_right _ (List.mem_append_right _ (List.mem_append_right _ (List.mem_append_right _ (List.mem_append_right _ (List.mem_append_right _ (List.mem_append_right _ (List.mem_append_right _ (List.mem_append_right _ (List.mem_append_right _ (List.mem_append_right _ (List.mem_append_right _ (List.mem_append_right _ (List.mem_append_right _ (List.mem_append_right _ (List.mem_append_right _ (List.mem_append_right _ (List.mem_append_right _ (List.mem_append_right _ (List.mem_append_right _ (List.mem_append_right _ (List.mem_append_right _ (List.mem_append_right _ (List.mem_append_right _ (List.mem_append_right _ (List.mem_append_right _ (List.mem_append_right _ (List.mem_append_right _ (List.mem_append_right _ (List.mem_append_right _ (List.mem_append_right _ (List.mem_append_right _ (List.mem_append_right _ (List.mem_append_right _ (List.mem_append_right _ (List.mem_append_right _ (List.mem_append_right _ (List.mem_append_right _ (List.mem_append_right _ (List.mem_append_right _ (List.mem_append_right _ (List.mem_append_right _ (List.mem_append_right _ (List.mem_append_right _ (List.mem_append_right _ (List.mem_append_right _ (List.mem_append_right _ (List.mem_append_right _ (List.mem_append_left _ h)))))))))))))))))))))))))))))))))))))))))))))))))))))))))))))))))))))))))))
theorem ic_63 : ∀ w ∈ wsL_law0_r63, w ∈ wsL_law0 := fun _ h => List.mem_append_left _ (List.mem_append_left _ (List.mem_append_left _ (List.mem_append_left _ (List.mem_append_left _ (List.mem_append_left _ (List.mem_append_left _ (List.mem_append_left _ (List.mem_append_left _ (List.mem_append_left _ (List.mem_append_left _ (List.mem_append_left _ (List.mem_append_left _ (List.mem_append_left _ (List.mem_append_right _ (List.mem_append_right _ (List.mem_append_right _ (List.mem_append_right _ (List.mem_append_right _ (List.mem_append_right _ (List.mem_append_right _ (List.mem_append_right _ (List.mem_append_right _ (List.mem_append_right _ (List.mem_append_right _ (List.mem_append_right _ (List.mem_append_right _ (List.mem_append_right _ (List.mem_append_right _ (List.mem_append_right _ (List.mem_append_right _ (List.mem_append_right _ (List.mem_append_right _ (List.mem_append_right _ (List.mem_append_right _ (List.mem_append_right _ (List.mem_append_right _ (List.mem_append_right _ (List.mem_append_right _ (List.mem_append_right _ (List.mem_append_right _ (List.mem_append_right _ (List.mem_append_right _ (List.mem_append_right _ (List.mem_append_right _ (List.mem_append_right _ (List.mem_append_right _ (List.mem_append_right _ (List.mem_append_right _ (List.mem_append_right _ (List.mem_append_right _ (List.mem_append_right _ (List.mem_append_right _ (List.mem_append_right _ (List.mem_append_right _ (List.mem_append_right _ (List.mem_append_right _ (List.mem_append_right _ (List.mem_append_right _ (List.mem_append_right _ (List.mem_append_right _ (List.mem_append_right _ (List.mem_append_right _ (List.mem_append_right _ (List.mem_append_right _ (List.mem_append_right _ (List.mem_append_right _ (List.mem_append_right _ (List.mem_append_right _ (List.mem_append_right _ (List.mem_append_right _ (List.mem_append_right _ (List.mem_append_right _ (List.mem_append_right _ (List.mem_append_right _ (List.mem_append_right _ (List.mem_append_left _ h))))))))))))))))))))))))))))))))))))))))))))))))))))))))))))))))))))))))))))
theorem ic_64 : ∀ w ∈ wsL_law0_r64, w ∈ wsL_law0 := fun _ h => List.mem_append_left _ (List.mem_append_left _ (List.mem_append_left _ (List.mem_append_left _ (List.mem_append_left _ (List.mem_append_left _ (List.mem_append_left _ (List.mem_append_left _ (List.mem_append_left _ (List.mem_append_left _ (List.mem_append_left _ (List.mem_append_left _ (List.mem_append_left _ (List.mem_append_left _ (List.mem_append_right _ (List.mem_append_right _ (List.mem_append_right _ (List.mem_append_right _ (List.mem_append_right _ (List.mem_append_right _ (List.mem_append_right _ (List.mem_append_right _ (List.mem_append_right _ (List.mem_append_right _ (List.mem_append_right _ (List.mem_append_right _ (List.mem_append_right _ (List.mem_append_right _ (List.mem_append_right _ (List.mem_append_right _ (List.mem_append_right _ (List.mem_append_right _ (List.mem_append_right _ (List.mem_append_right _ (List.mem_append_right _ (List.mem_append_right _ (List.mem_append_right _ (List.mem_append_right _ (List.mem_append_right _ (List.mem_append_right _ (List.mem_append_right _ (List.mem_append_right _ (List.mem_append_right _ (List.mem_append_right _ (List.mem_append_right _ (List.mem_append_right _ (List.mem_append_right _ (List.mem_append_right _ (List.mem_append_right _ (List.mem_append_right _ (List.mem_append_right _ (List.mem_append_right _ (List.mem_append_right _ (List.mem_append_right _ (List.mem_append_right _ (List.mem_append_right _ (List.mem_append_right _ (List.mem_append_right _ (List.mem_append_right _ (List.mem_append_right _ (List.mem_append_right _ (List.mem_append_right _ (List.mem_append_right _ (List.mem_append_right _ (List.mem_append_right _ (List.mem_append_right _ (List.mem_append_right _ (List.mem_append_right _ (List.mem_append_right _ (List.mem_append_right _ (List.mem_append_right _ (List.mem_append_right _ (List.mem_append_right _ (List.mem_append_right _ (List.mem_append_right _ (List.mem_append_right _ (List.mem_append_right _ (h)))))))))))))))))))))))))))))))))))))))))))))))))))))))))))))))))))))))))))))
