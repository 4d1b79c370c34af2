def lw_okq (q : MethodName × Nat) : Prop := (q.1.cls ≠ "java/lang/invoke/MethodHandle" ∧ q.1.cls ≠ "java/lang/invoke/VarHandle") ∧ Cond.instantiable q.1.cls q.2 ∈ tables_1 ∧ Cond.privateMethod q.1 ∈ tables_1 ∧ Cond.instanceMethod q.1 ∈ tables_1
theorem lw_p0 : lw_okq (⟨"HiveYard", "refuse", "(I)I"⟩, 3) := ⟨⟨by decide +kernel, by decide +kernel⟩, List.mem_of_getElem? (i := 14) (by decide +kernel), List.mem_of_getElem? (i := 142) (by decide +kernel), List.mem_of_getElem? (i := 143) (by decide +kernel)⟩
theorem lw_p1 : lw_okq (⟨"HiveYard", "refuseLong", "(I)J"⟩, 3) := ⟨⟨by decide +kernel, by decide +kernel⟩, List.mem_of_getElem? (i := 14) (by decide +kernel), List.mem_of_getElem? (i := 263) (by decide +kernel), List.mem_of_getElem? (i := 264) (by decide +kernel)⟩
theorem lw_p2 : lw_okq (⟨"HiveYard", "lengthTold", "(LHiveYard$Hive;I)J"⟩, 3) := ⟨⟨by decide +kernel, by decide +kernel⟩, List.mem_of_getElem? (i := 14) (by decide +kernel), List.mem_of_getElem? (i := 321) (by decide +kernel), List.mem_of_getElem? (i := 322) (by decide +kernel)⟩
theorem lw_p3 : lw_okq (⟨"HiveYardModel", "thing", "(II)I"⟩, 15) := ⟨⟨by decide +kernel, by decide +kernel⟩, List.mem_of_getElem? (i := 333) (by decide +kernel), List.mem_of_getElem? (i := 396) (by decide +kernel), List.mem_of_getElem? (i := 397) (by decide +kernel)⟩
theorem lw_p4 : lw_okq (⟨"HiveYardModel", "refuse", "(I)I"⟩, 15) := ⟨⟨by decide +kernel, by decide +kernel⟩, List.mem_of_getElem? (i := 333) (by decide +kernel), List.mem_of_getElem? (i := 404) (by decide +kernel), List.mem_of_getElem? (i := 405) (by decide +kernel)⟩
theorem lw_p5 : lw_okq (⟨"HiveYardModel", "newRow", "(II)V"⟩, 15) := ⟨⟨by decide +kernel, by decide +kernel⟩, List.mem_of_getElem? (i := 333) (by decide +kernel), List.mem_of_getElem? (i := 408) (by decide +kernel), List.mem_of_getElem? (i := 409) (by decide +kernel)⟩
theorem lw_p6 : lw_okq (⟨"HiveYardModel", "fits", "(III)Z"⟩, 15) := ⟨⟨by decide +kernel, by decide +kernel⟩, List.mem_of_getElem? (i := 333) (by decide +kernel), List.mem_of_getElem? (i := 424) (by decide +kernel), List.mem_of_getElem? (i := 425) (by decide +kernel)⟩
theorem lw_p7 : lw_okq (⟨"HiveYardModel", "wrongRow", "(I)I"⟩, 15) := ⟨⟨by decide +kernel, by decide +kernel⟩, List.mem_of_getElem? (i := 333) (by decide +kernel), List.mem_of_getElem? (i := 436) (by decide +kernel), List.mem_of_getElem? (i := 437) (by decide +kernel)⟩
theorem lw_p8 : lw_okq (⟨"HiveYardModel", "wrongHive", "(I)I"⟩, 15) := ⟨⟨by decide +kernel, by decide +kernel⟩, List.mem_of_getElem? (i := 333) (by decide +kernel), List.mem_of_getElem? (i := 440) (by decide +kernel), List.mem_of_getElem? (i := 441) (by decide +kernel)⟩
theorem lw_p9 : lw_okq (⟨"HiveYardModel", "wrongSlot", "(II)I"⟩, 15) := ⟨⟨by decide +kernel, by decide +kernel⟩, List.mem_of_getElem? (i := 333) (by decide +kernel), List.mem_of_getElem? (i := 452) (by decide +kernel), List.mem_of_getElem? (i := 453) (by decide +kernel)⟩
theorem lw_p10 : lw_okq (⟨"HiveYardModel", "refuseLong", "(I)J"⟩, 15) := ⟨⟨by decide +kernel, by decide +kernel⟩, List.mem_of_getElem? (i := 333) (by decide +kernel), List.mem_of_getElem? (i := 465) (by decide +kernel), List.mem_of_getElem? (i := 466) (by decide +kernel)⟩
theorem lw_p11 : lw_okq (⟨"HiveYardModel", "tended", "(II)I"⟩, 15) := ⟨⟨by decide +kernel, by decide +kernel⟩, List.mem_of_getElem? (i := 333) (by decide +kernel), List.mem_of_getElem? (i := 478) (by decide +kernel), List.mem_of_getElem? (i := 479) (by decide +kernel)⟩
def lw_privs_1 : List (MethodName × Nat) := [(⟨"HiveYard", "refuse", "(I)I"⟩, 3), (⟨"HiveYard", "refuseLong", "(I)J"⟩, 3), (⟨"HiveYard", "lengthTold", "(LHiveYard$Hive;I)J"⟩, 3), (⟨"HiveYardModel", "thing", "(II)I"⟩, 15), (⟨"HiveYardModel", "refuse", "(I)I"⟩, 15), (⟨"HiveYardModel", "newRow", "(II)V"⟩, 15), (⟨"HiveYardModel", "fits", "(III)Z"⟩, 15), (⟨"HiveYardModel", "wrongRow", "(I)I"⟩, 15), (⟨"HiveYardModel", "wrongHive", "(I)I"⟩, 15), (⟨"HiveYardModel", "wrongSlot", "(II)I"⟩, 15), (⟨"HiveYardModel", "refuseLong", "(I)J"⟩, 15), (⟨"HiveYardModel", "tended", "(II)I"⟩, 15)]
theorem lw_r1 : ∀ q ∈ lw_privs_1, lw_okq q := List.forall_mem_cons.mpr ⟨lw_p0, List.forall_mem_cons.mpr ⟨lw_p1, List.forall_mem_cons.mpr ⟨lw_p2, List.forall_mem_cons.mpr ⟨lw_p3, List.forall_mem_cons.mpr ⟨lw_p4, List.forall_mem_cons.mpr ⟨lw_p5, List.forall_mem_cons.mpr ⟨lw_p6, List.forall_mem_cons.mpr ⟨lw_p7, List.forall_mem_cons.mpr ⟨lw_p8, List.forall_mem_cons.mpr ⟨lw_p9, List.forall_mem_cons.mpr ⟨lw_p10, List.forall_mem_cons.mpr ⟨lw_p11, fun _ h => absurd h List.not_mem_nil⟩⟩⟩⟩⟩⟩⟩⟩⟩⟩⟩⟩
def lw_privs : List (MethodName × Nat) := lw_privs_1
def lw_tbl : List Cond := k2_sels lw_privs ++ tables_1
theorem lw_privs_ok : ∀ q ∈ lw_privs, lw_okq q := lw_r1

def RX0 : String := "HiveYard$Alarm"
def TX0 : u_T := fun k => match k with
  | 0 => ("HiveYard$Thing", "sort", "I", true)
  | _ => ("HiveYard$Alarm", "code", "I", true)
def tyX0 : Nat → FieldType := fun k => match k with
  | 0 => .int
  | _ => .int
abbrev wsX00 : List Cond := u_ws RX0 TX0 2
theorem nmX0 : ∀ a, a < 2 → ∀ b, b < 2 → a ≠ b → (TX0 a).2.1 ≠ (TX0 b).2.1 := by decide +kernel
theorem tyX0_ok : ∀ k, k < 2 → parseFieldDescriptor (TX0 k).2.2.1 = some (tyX0 k) := by decide +kernel
abbrev cX0_init : ByteArray := prog_2_method_1_code
def yX0_init : MethodName := ⟨RX0, "<init>", "(I)V"⟩
def RX1 : String := "HiveYard$Brood"
def TX1 : u_T := fun k => match k with
  | 0 => ("HiveYard$Frame", "honey", "I", false)
  | 1 => ("HiveYard$Thing", "sort", "I", true)
  | _ => ("HiveYard$Brood", "eggs", "I", false)
def tyX1 : Nat → FieldType := fun k => match k with
  | 0 => .int
  | 1 => .int
  | _ => .int
abbrev wsX10 : List Cond := u_ws RX1 TX1 3
theorem nmX1 : ∀ a, a < 3 → ∀ b, b < 3 → a ≠ b → (TX1 a).2.1 ≠ (TX1 b).2.1 := by decide +kernel
theorem tyX1_ok : ∀ k, k < 3 → parseFieldDescriptor (TX1 k).2.2.1 = some (tyX1 k) := by decide +kernel
abbrev cX1_init : ByteArray := prog_3_method_1_code
def yX1_init : MethodName := ⟨RX1, "<init>", "(I)V"⟩
def RX2 : String := "HiveYard$Comb"
def TX2 : u_T := fun k => match k with
  | 0 => ("HiveYard$Comb", "lines", "I", true)
  | 1 => ("HiveYard$Comb", "width", "I", true)
  | _ => ("HiveYard$Comb", "cells", "[I", true)
def tyX2 : Nat → FieldType := fun k => match k with
  | 0 => .int
  | 1 => .int
  | _ => .array .int
abbrev wsX20 : List Cond := u_ws RX2 TX2 3
theorem nmX2 : ∀ a, a < 3 → ∀ b, b < 3 → a ≠ b → (TX2 a).2.1 ≠ (TX2 b).2.1 := by decide +kernel
theorem tyX2_ok : ∀ k, k < 3 → parseFieldDescriptor (TX2 k).2.2.1 = some (tyX2 k) := by decide +kernel
abbrev cX2_init : ByteArray := prog_4_method_1_code
def yX2_init : MethodName := ⟨RX2, "<init>", "(II)V"⟩
abbrev cX2_exchange : ByteArray := prog_4_method_2_code
def yX2_exchange : MethodName := ⟨RX2, "exchange", "(III)I"⟩
def RX3 : String := "HiveYard$Feeder"
def TX3 : u_T := fun k => match k with
  | 0 => ("HiveYard$Keeper", "care", "I", false)
  | _ => ("HiveYard$Thing", "sort", "I", true)
def tyX3 : Nat → FieldType := fun k => match k with
  | 0 => .int
  | _ => .int
abbrev wsX30 : List Cond := u_ws RX3 TX3 2
theorem nmX3 : ∀ a, a < 2 → ∀ b, b < 2 → a ≠ b → (TX3 a).2.1 ≠ (TX3 b).2.1 := by decide +kernel
theorem tyX3_ok : ∀ k, k < 2 → parseFieldDescriptor (TX3 k).2.2.1 = some (tyX3 k) := by decide +kernel
abbrev cX3_init : ByteArray := prog_5_method_1_code
def yX3_init : MethodName := ⟨RX3, "<init>", "(I)V"⟩
abbrev cX3_canCareFor : ByteArray := prog_5_method_2_code
def yX3_canCareFor : MethodName := ⟨RX3, "canCareFor", "([LHiveYard$Frame;)Z"⟩
abbrev cX3_careFor : ByteArray := prog_5_method_3_code
def yX3_careFor : MethodName := ⟨RX3, "careFor", "([LHiveYard$Frame;I)I"⟩
def RX4 : String := "HiveYard$Frame"
def TX4 : u_T := fun k => match k with
  | 0 => ("HiveYard$Thing", "sort", "I", true)
  | _ => ("HiveYard$Frame", "honey", "I", false)
def tyX4 : Nat → FieldType := fun k => match k with
  | 0 => .int
  | _ => .int
abbrev wsX40 : List Cond := u_ws RX4 TX4 2
theorem nmX4 : ∀ a, a < 2 → ∀ b, b < 2 → a ≠ b → (TX4 a).2.1 ≠ (TX4 b).2.1 := by decide +kernel
theorem tyX4_ok : ∀ k, k < 2 → parseFieldDescriptor (TX4 k).2.2.1 = some (tyX4 k) := by decide +kernel
abbrev cX4_init : ByteArray := prog_6_method_1_code
def yX4_init : MethodName := ⟨RX4, "<init>", "(II)V"⟩
def RX5 : String := "HiveYard$Hive"
def TX5 : u_T := fun k => match k with
  | 0 => ("HiveYard$Thing", "sort", "I", true)
  | 1 => ("HiveYard$Hive", "row", "[LHiveYard$Frame;", false)
  | 2 => ("HiveYard$Hive", "comb", "LHiveYard$Comb;", false)
  | 3 => ("HiveYard$Hive", "queen", "LHiveYard$Queen;", false)
  | 4 => ("HiveYard$Hive", "keeper", "LHiveYard$Keeper;", false)
  | _ => ("HiveYard$Hive", "alarm", "LHiveYard$Alarm;", false)
def tyX5 : Nat → FieldType := fun k => match k with
  | 0 => .int
  | 1 => .array (.object "HiveYard$Frame")
  | 2 => .object "HiveYard$Comb"
  | 3 => .object "HiveYard$Queen"
  | 4 => .object "HiveYard$Keeper"
  | _ => .object "HiveYard$Alarm"
abbrev wsX50 : List Cond := u_ws RX5 TX5 6
theorem nmX5 : ∀ a, a < 6 → ∀ b, b < 6 → a ≠ b → (TX5 a).2.1 ≠ (TX5 b).2.1 := by decide +kernel
theorem tyX5_ok : ∀ k, k < 6 → parseFieldDescriptor (TX5 k).2.2.1 = some (tyX5 k) := by decide +kernel
abbrev cX5_init : ByteArray := prog_7_method_1_code
def yX5_init : MethodName := ⟨RX5, "<init>", "(Z[LHiveYard$Frame;)V"⟩
abbrev cX5_canHold : ByteArray := prog_7_method_2_code
def yX5_canHold : MethodName := ⟨RX5, "canHold", "(LHiveYard$Frame;)Z"⟩
abbrev cX5_changePart : ByteArray := prog_7_method_3_code
def yX5_changePart : MethodName := ⟨RX5, "changePart", "(ILHiveYard$Thing;)V"⟩
def RX6 : String := "HiveYard$Keeper"
def TX6 : u_T := fun k => match k with
  | _ => ("", "", "", false)
def tyX6 : Nat → FieldType := fun k => match k with
  | _ => .int
abbrev wsX60 : List Cond := u_ws RX6 TX6 0
theorem nmX6 : ∀ a, a < 0 → ∀ b, b < 0 → a ≠ b → (TX6 a).2.1 ≠ (TX6 b).2.1 := by decide +kernel
theorem tyX6_ok : ∀ k, k < 0 → parseFieldDescriptor (TX6 k).2.2.1 = some (tyX6 k) := by decide +kernel
abbrev cX6_init : ByteArray := prog_8_method_1_code
def yX6_init : MethodName := ⟨RX6, "<init>", "(II)V"⟩
def RX7 : String := "HiveYard$Queen"
def TX7 : u_T := fun k => match k with
  | 0 => ("HiveYard$Thing", "sort", "I", true)
  | 1 => ("HiveYard$Queen", "lays", "I", true)
  | _ => ("HiveYard$Queen", "age", "I", false)
def tyX7 : Nat → FieldType := fun k => match k with
  | 0 => .int
  | 1 => .int
  | _ => .int
abbrev wsX70 : List Cond := u_ws RX7 TX7 3
theorem nmX7 : ∀ a, a < 3 → ∀ b, b < 3 → a ≠ b → (TX7 a).2.1 ≠ (TX7 b).2.1 := by decide +kernel
theorem tyX7_ok : ∀ k, k < 3 → parseFieldDescriptor (TX7 k).2.2.1 = some (tyX7 k) := by decide +kernel
abbrev cX7_init : ByteArray := prog_9_method_1_code
def yX7_init : MethodName := ⟨RX7, "<init>", "(I)V"⟩
def RX8 : String := "HiveYard$Smoker"
def TX8 : u_T := fun k => match k with
  | 0 => ("HiveYard$Keeper", "care", "I", false)
  | _ => ("HiveYard$Thing", "sort", "I", true)
def tyX8 : Nat → FieldType := fun k => match k with
  | 0 => .int
  | _ => .int
abbrev wsX80 : List Cond := u_ws RX8 TX8 2
theorem nmX8 : ∀ a, a < 2 → ∀ b, b < 2 → a ≠ b → (TX8 a).2.1 ≠ (TX8 b).2.1 := by decide +kernel
theorem tyX8_ok : ∀ k, k < 2 → parseFieldDescriptor (TX8 k).2.2.1 = some (tyX8 k) := by decide +kernel
abbrev cX8_init : ByteArray := prog_10_method_1_code
def yX8_init : MethodName := ⟨RX8, "<init>", "(I)V"⟩
abbrev cX8_canCareFor : ByteArray := prog_10_method_2_code
def yX8_canCareFor : MethodName := ⟨RX8, "canCareFor", "([LHiveYard$Frame;)Z"⟩
abbrev cX8_careFor : ByteArray := prog_10_method_3_code
def yX8_careFor : MethodName := ⟨RX8, "careFor", "([LHiveYard$Frame;I)I"⟩
def RX9 : String := "HiveYard$Thing"
def TX9 : u_T := fun k => match k with
  | _ => ("", "", "", false)
def tyX9 : Nat → FieldType := fun k => match k with
  | _ => .int
abbrev wsX90 : List Cond := u_ws RX9 TX9 0
theorem nmX9 : ∀ a, a < 0 → ∀ b, b < 0 → a ≠ b → (TX9 a).2.1 ≠ (TX9 b).2.1 := by decide +kernel
theorem tyX9_ok : ∀ k, k < 0 → parseFieldDescriptor (TX9 k).2.2.1 = some (tyX9 k) := by decide +kernel
abbrev cX9_init : ByteArray := prog_11_method_1_code
def yX9_init : MethodName := ⟨RX9, "<init>", "(I)V"⟩
def RX10 : String := "HiveYard"
def TX10 : u_T := fun k => match k with
  | 0 => ("HiveYard", "shelves", "[LHiveYard$Thing;", true)
  | 1 => ("HiveYard", "refusals", "[I", true)
  | _ => ("HiveYard", "lastCode", "I", false)
def tyX10 : Nat → FieldType := fun k => match k with
  | 0 => .array (.object "HiveYard$Thing")
  | 1 => .array .int
  | _ => .int
abbrev wsX100 : List Cond := u_ws RX10 TX10 3
theorem nmX10 : ∀ a, a < 3 → ∀ b, b < 3 → a ≠ b → (TX10 a).2.1 ≠ (TX10 b).2.1 := by decide +kernel
theorem tyX10_ok : ∀ k, k < 3 → parseFieldDescriptor (TX10 k).2.2.1 = some (tyX10 k) := by decide +kernel
abbrev cX10_init : ByteArray := prog_1_method_1_code
def yX10_init : MethodName := ⟨RX10, "<init>", "()V"⟩
abbrev cX10_set : ByteArray := prog_1_method_2_code
def yX10_set : MethodName := ⟨RX10, "set", "(III)I"⟩
abbrev cX10_hive : ByteArray := prog_1_method_3_code
def yX10_hive : MethodName := ⟨RX10, "hive", "(IZI)I"⟩
abbrev cX10_share : ByteArray := prog_1_method_4_code
def yX10_share : MethodName := ⟨RX10, "share", "(II)I"⟩
abbrev cX10_clear : ByteArray := prog_1_method_5_code
def yX10_clear : MethodName := ⟨RX10, "clear", "(I)I"⟩
abbrev cX10_give : ByteArray := prog_1_method_6_code
def yX10_give : MethodName := ⟨RX10, "give", "(III)I"⟩
abbrev cX10_row : ByteArray := prog_1_method_7_code
def yX10_row : MethodName := ⟨RX10, "row", "(II)I"⟩
abbrev cX10_strip : ByteArray := prog_1_method_8_code
def yX10_strip : MethodName := ⟨RX10, "strip", "(I)I"⟩
abbrev cX10_comb : ByteArray := prog_1_method_9_code
def yX10_comb : MethodName := ⟨RX10, "comb", "(III)I"⟩
abbrev cX10_put : ByteArray := prog_1_method_10_code
def yX10_put : MethodName := ⟨RX10, "put", "(III)I"⟩
abbrev cX10_take : ByteArray := prog_1_method_11_code
def yX10_take : MethodName := ⟨RX10, "take", "(III)I"⟩
abbrev cX10_honey : ByteArray := prog_1_method_12_code
def yX10_honey : MethodName := ⟨RX10, "honey", "(III)J"⟩
abbrev cX10_lay : ByteArray := prog_1_method_13_code
def yX10_lay : MethodName := ⟨RX10, "lay", "(III)J"⟩
abbrev cX10_tend : ByteArray := prog_1_method_14_code
def yX10_tend : MethodName := ⟨RX10, "tend", "(IIZ)J"⟩
abbrev cX10_cell : ByteArray := prog_1_method_15_code
def yX10_cell : MethodName := ⟨RX10, "cell", "(IIII)J"⟩
abbrev cX10_harvest : ByteArray := prog_1_method_16_code
def yX10_harvest : MethodName := ⟨RX10, "harvest", "(II)J"⟩
abbrev cX10_sound : ByteArray := prog_1_method_17_code
def yX10_sound : MethodName := ⟨RX10, "sound", "(I)I"⟩
abbrev cX10_sort : ByteArray := prog_1_method_18_code
def yX10_sort : MethodName := ⟨RX10, "sort", "(I)I"⟩
abbrev cX10_told : ByteArray := prog_1_method_19_code
def yX10_told : MethodName := ⟨RX10, "told", "(II)J"⟩
abbrev cX10_same : ByteArray := prog_1_method_20_code
def yX10_same : MethodName := ⟨RX10, "same", "(II)I"⟩
abbrev cX10_count : ByteArray := prog_1_method_21_code
def yX10_count : MethodName := ⟨RX10, "count", "(I)I"⟩
abbrev cX10_lengthTold : ByteArray := prog_1_method_22_code
def yX10_lengthTold : MethodName := ⟨RX10, "lengthTold", "(LHiveYard$Hive;I)J"⟩
abbrev cX10_refuse : ByteArray := prog_1_method_23_code
def yX10_refuse : MethodName := ⟨RX10, "refuse", "(I)I"⟩
abbrev cX10_refuseLong : ByteArray := prog_1_method_24_code
def yX10_refuseLong : MethodName := ⟨RX10, "refuseLong", "(I)J"⟩
abbrev cX10_isShelf : ByteArray := prog_1_method_25_code
def yX10_isShelf : MethodName := ⟨RX10, "isShelf", "(I)Z"⟩
abbrev cX10_isIndex : ByteArray := prog_1_method_26_code
def yX10_isIndex : MethodName := ⟨RX10, "isIndex", "(II)Z"⟩
abbrev cX10_oneIfThing : ByteArray := prog_1_method_27_code
def yX10_oneIfThing : MethodName := ⟨RX10, "oneIfThing", "(LHiveYard$Thing;)I"⟩
abbrev cX10_newThing : ByteArray := prog_1_method_28_code
def yX10_newThing : MethodName := ⟨RX10, "newThing", "(II)LHiveYard$Thing;"⟩
abbrev cX10_asHive : ByteArray := prog_1_method_29_code
def yX10_asHive : MethodName := ⟨RX10, "asHive", "(LHiveYard$Thing;)LHiveYard$Hive;"⟩
abbrev cX10_rowOf : ByteArray := prog_1_method_30_code
def yX10_rowOf : MethodName := ⟨RX10, "rowOf", "(LHiveYard$Hive;)[LHiveYard$Frame;"⟩
abbrev cX10_asFrame : ByteArray := prog_1_method_31_code
def yX10_asFrame : MethodName := ⟨RX10, "asFrame", "(LHiveYard$Thing;)LHiveYard$Frame;"⟩
abbrev cX10_asBrood : ByteArray := prog_1_method_32_code
def yX10_asBrood : MethodName := ⟨RX10, "asBrood", "(LHiveYard$Thing;)LHiveYard$Brood;"⟩
abbrev cX10_isNoHive : ByteArray := prog_1_method_33_code
def yX10_isNoHive : MethodName := ⟨RX10, "isNoHive", "(LHiveYard$Thing;)Z"⟩
abbrev cX10_castOrNull : ByteArray := prog_1_method_34_code
def yX10_castOrNull : MethodName := ⟨RX10, "castOrNull", "(LHiveYard$Thing;)I"⟩
abbrev cX10_isNoPart : ByteArray := prog_1_method_35_code
def yX10_isNoPart : MethodName := ⟨RX10, "isNoPart", "(LHiveYard$Thing;I)Z"⟩
def RX11 : String := "HiveYardModel"
def TX11 : u_T := fun k => match k with
  | 0 => ("HiveYardModel", "shelf", "[I", true)
  | 1 => ("HiveYardModel", "things", "I", false)
  | 2 => ("HiveYardModel", "sorts", "[I", true)
  | 3 => ("HiveYardModel", "first", "[I", true)
  | 4 => ("HiveYardModel", "second", "[I", true)
  | 5 => ("HiveYardModel", "slotMany", "[I", true)
  | 6 => ("HiveYardModel", "slots", "[I", true)
  | 7 => ("HiveYardModel", "lineMany", "[I", true)
  | 8 => ("HiveYardModel", "cellMany", "[I", true)
  | 9 => ("HiveYardModel", "cells", "[I", true)
  | 10 => ("HiveYardModel", "queen", "[I", true)
  | 11 => ("HiveYardModel", "keeper", "[I", true)
  | 12 => ("HiveYardModel", "alarm", "[I", true)
  | 13 => ("HiveYardModel", "refusals", "[I", true)
  | _ => ("HiveYardModel", "code", "I", false)
def tyX11 : Nat → FieldType := fun k => match k with
  | 0 => .array .int
  | 1 => .int
  | 2 => .array .int
  | 3 => .array .int
  | 4 => .array .int
  | 5 => .array .int
  | 6 => .array .int
  | 7 => .array .int
  | 8 => .array .int
  | 9 => .array .int
  | 10 => .array .int
  | 11 => .array .int
  | 12 => .array .int
  | 13 => .array .int
  | _ => .int
abbrev wsX110 : List Cond := u_ws RX11 TX11 15
theorem nmX11 : ∀ a, a < 15 → ∀ b, b < 15 → a ≠ b → (TX11 a).2.1 ≠ (TX11 b).2.1 := by decide +kernel
theorem tyX11_ok : ∀ k, k < 15 → parseFieldDescriptor (TX11 k).2.2.1 = some (tyX11 k) := by decide +kernel
abbrev cX11_init : ByteArray := prog_13_method_1_code
def yX11_init : MethodName := ⟨RX11, "<init>", "()V"⟩
abbrev cX11_in : ByteArray := prog_13_method_3_code
def yX11_in : MethodName := ⟨RX11, "in", "(III)Z"⟩
abbrev cX11_isShelf : ByteArray := prog_13_method_4_code
def yX11_isShelf : MethodName := ⟨RX11, "isShelf", "(I)Z"⟩
abbrev cX11_refuse : ByteArray := prog_13_method_5_code
def yX11_refuse : MethodName := ⟨RX11, "refuse", "(I)I"⟩
abbrev cX11_refuseLong : ByteArray := prog_13_method_6_code
def yX11_refuseLong : MethodName := ⟨RX11, "refuseLong", "(I)J"⟩
abbrev cX11_thing : ByteArray := prog_13_method_7_code
def yX11_thing : MethodName := ⟨RX11, "thing", "(II)I"⟩
abbrev cX11_set : ByteArray := prog_13_method_8_code
def yX11_set : MethodName := ⟨RX11, "set", "(III)I"⟩
abbrev cX11_newRow : ByteArray := prog_13_method_9_code
def yX11_newRow : MethodName := ⟨RX11, "newRow", "(II)V"⟩
abbrev cX11_hive : ByteArray := prog_13_method_10_code
def yX11_hive : MethodName := ⟨RX11, "hive", "(IZI)I"⟩
abbrev cX11_share : ByteArray := prog_13_method_11_code
def yX11_share : MethodName := ⟨RX11, "share", "(II)I"⟩
abbrev cX11_clear : ByteArray := prog_13_method_12_code
def yX11_clear : MethodName := ⟨RX11, "clear", "(I)I"⟩
abbrev cX11_fits : ByteArray := prog_13_method_13_code
def yX11_fits : MethodName := ⟨RX11, "fits", "(III)Z"⟩
abbrev cX11_wrongHive : ByteArray := prog_13_method_14_code
def yX11_wrongHive : MethodName := ⟨RX11, "wrongHive", "(I)I"⟩
abbrev cX11_wrongRow : ByteArray := prog_13_method_15_code
def yX11_wrongRow : MethodName := ⟨RX11, "wrongRow", "(I)I"⟩
abbrev cX11_wrongSlot : ByteArray := prog_13_method_16_code
def yX11_wrongSlot : MethodName := ⟨RX11, "wrongSlot", "(II)I"⟩
abbrev cX11_give : ByteArray := prog_13_method_17_code
def yX11_give : MethodName := ⟨RX11, "give", "(III)I"⟩
abbrev cX11_row : ByteArray := prog_13_method_18_code
def yX11_row : MethodName := ⟨RX11, "row", "(II)I"⟩
abbrev cX11_strip : ByteArray := prog_13_method_19_code
def yX11_strip : MethodName := ⟨RX11, "strip", "(I)I"⟩
abbrev cX11_comb : ByteArray := prog_13_method_20_code
def yX11_comb : MethodName := ⟨RX11, "comb", "(III)I"⟩
abbrev cX11_put : ByteArray := prog_13_method_21_code
def yX11_put : MethodName := ⟨RX11, "put", "(III)I"⟩
abbrev cX11_take : ByteArray := prog_13_method_22_code
def yX11_take : MethodName := ⟨RX11, "take", "(III)I"⟩
abbrev cX11_honey : ByteArray := prog_13_method_23_code
def yX11_honey : MethodName := ⟨RX11, "honey", "(III)J"⟩
abbrev cX11_lay : ByteArray := prog_13_method_24_code
def yX11_lay : MethodName := ⟨RX11, "lay", "(III)J"⟩
abbrev cX11_tended : ByteArray := prog_13_method_25_code
def yX11_tended : MethodName := ⟨RX11, "tended", "(II)I"⟩
abbrev cX11_tend : ByteArray := prog_13_method_26_code
def yX11_tend : MethodName := ⟨RX11, "tend", "(IIZ)J"⟩
abbrev cX11_cell : ByteArray := prog_13_method_27_code
def yX11_cell : MethodName := ⟨RX11, "cell", "(IIII)J"⟩
abbrev cX11_harvest : ByteArray := prog_13_method_28_code
def yX11_harvest : MethodName := ⟨RX11, "harvest", "(II)J"⟩
abbrev cX11_sound : ByteArray := prog_13_method_29_code
def yX11_sound : MethodName := ⟨RX11, "sound", "(I)I"⟩
abbrev cX11_sort : ByteArray := prog_13_method_30_code
def yX11_sort : MethodName := ⟨RX11, "sort", "(I)I"⟩
abbrev cX11_told : ByteArray := prog_13_method_31_code
def yX11_told : MethodName := ⟨RX11, "told", "(II)J"⟩
abbrev cX11_same : ByteArray := prog_13_method_32_code
def yX11_same : MethodName := ⟨RX11, "same", "(II)I"⟩
abbrev cX11_count : ByteArray := prog_13_method_33_code
def yX11_count : MethodName := ⟨RX11, "count", "(I)I"⟩
def RL : String := "HiveYardLaw"
abbrev cL_law : ByteArray := code
def yL_law : MethodName := ⟨RL, "law", "([I)Z"⟩
abbrev vwCl : List vw_C := [(RX0, TX0, 2), (RX1, TX1, 3), (RX2, TX2, 3), (RX3, TX3, 2), (RX4, TX4, 2), (RX5, TX5, 6), (RX7, TX7, 3), (RX8, TX8, 2), (RX10, TX10, 3), (RX11, TX11, 15)]
