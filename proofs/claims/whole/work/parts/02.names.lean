def RX0 : String := "ObjectLoads$Bridge"
def TX0 : u_T := fun k => match k with
  | 0 => ("ObjectLoads$Thing", "number", "I", true)
  | 1 => ("ObjectLoads$Thing", "places", "[LObjectLoads$Thing;", true)
  | 2 => ("ObjectLoads$Thing", "key", "I", false)
  | 3 => ("ObjectLoads$Thing", "v", "I", false)
  | 4 => ("ObjectLoads$Thing", "next", "LObjectLoads$Thing;", false)
  | 5 => ("ObjectLoads$Thing", "held", "Z", false)
  | _ => ("ObjectLoads$Thing", "timesAsked", "I", false)
def tyX0 : Nat → FieldType := fun k => match k with
  | 0 => .int
  | 1 => .array (.object "ObjectLoads$Thing")
  | 2 => .int
  | 3 => .int
  | 4 => .object "ObjectLoads$Thing"
  | 5 => .boolean
  | _ => .int
abbrev wsX00 : List Cond := u_ws RX0 TX0 7
theorem nmX0 : ∀ a, a < 7 → ∀ b, b < 7 → a ≠ b → (TX0 a).2.1 ≠ (TX0 b).2.1 := by decide +kernel
theorem tyX0_ok : ∀ k, k < 7 → parseFieldDescriptor (TX0 k).2.2.1 = some (tyX0 k) := by decide +kernel
abbrev cX0_init : ByteArray := prog_2_method_1_code
def yX0_init : MethodName := ⟨RX0, "<init>", "(III)V"⟩
abbrev cX0_linkCount : ByteArray := prog_2_method_2_code
def yX0_linkCount : MethodName := ⟨RX0, "linkCount", "()I"⟩
abbrev cX0_otherEnd : ByteArray := prog_2_method_3_code
def yX0_otherEnd : MethodName := ⟨RX0, "otherEnd", "(LObjectLoads$Node;)LObjectLoads$Thing;"⟩
def RX1 : String := "ObjectLoads$Broken"
def TX1 : u_T := fun k => match k with
  | 0 => ("ObjectLoads$Thing", "number", "I", true)
  | 1 => ("ObjectLoads$Thing", "places", "[LObjectLoads$Thing;", true)
  | 2 => ("ObjectLoads$Thing", "key", "I", false)
  | 3 => ("ObjectLoads$Thing", "v", "I", false)
  | 4 => ("ObjectLoads$Thing", "next", "LObjectLoads$Thing;", false)
  | 5 => ("ObjectLoads$Thing", "held", "Z", false)
  | _ => ("ObjectLoads$Thing", "timesAsked", "I", false)
def tyX1 : Nat → FieldType := fun k => match k with
  | 0 => .int
  | 1 => .array (.object "ObjectLoads$Thing")
  | 2 => .int
  | 3 => .int
  | 4 => .object "ObjectLoads$Thing"
  | 5 => .boolean
  | _ => .int
abbrev wsX10 : List Cond := u_ws RX1 TX1 7
theorem nmX1 : ∀ a, a < 7 → ∀ b, b < 7 → a ≠ b → (TX1 a).2.1 ≠ (TX1 b).2.1 := by decide +kernel
theorem tyX1_ok : ∀ k, k < 7 → parseFieldDescriptor (TX1 k).2.2.1 = some (tyX1 k) := by decide +kernel
abbrev cX1_init : ByteArray := prog_3_method_1_code
def yX1_init : MethodName := ⟨RX1, "<init>", "(III)V"⟩
abbrev cX1_valueCause : ByteArray := prog_3_method_2_code
def yX1_valueCause : MethodName := ⟨RX1, "valueCause", "()I"⟩
abbrev cX1_toldValue : ByteArray := prog_3_method_3_code
def yX1_toldValue : MethodName := ⟨RX1, "toldValue", "()I"⟩
def RX2 : String := "ObjectLoads$City"
def TX2 : u_T := fun k => match k with
  | 0 => ("ObjectLoads$Thing", "number", "I", true)
  | 1 => ("ObjectLoads$Thing", "places", "[LObjectLoads$Thing;", true)
  | 2 => ("ObjectLoads$Thing", "key", "I", false)
  | 3 => ("ObjectLoads$Thing", "v", "I", false)
  | 4 => ("ObjectLoads$Thing", "next", "LObjectLoads$Thing;", false)
  | 5 => ("ObjectLoads$Thing", "held", "Z", false)
  | _ => ("ObjectLoads$Thing", "timesAsked", "I", false)
def tyX2 : Nat → FieldType := fun k => match k with
  | 0 => .int
  | 1 => .array (.object "ObjectLoads$Thing")
  | 2 => .int
  | 3 => .int
  | 4 => .object "ObjectLoads$Thing"
  | 5 => .boolean
  | _ => .int
abbrev wsX20 : List Cond := u_ws RX2 TX2 7
theorem nmX2 : ∀ a, a < 7 → ∀ b, b < 7 → a ≠ b → (TX2 a).2.1 ≠ (TX2 b).2.1 := by decide +kernel
theorem tyX2_ok : ∀ k, k < 7 → parseFieldDescriptor (TX2 k).2.2.1 = some (tyX2 k) := by decide +kernel
abbrev cX2_init : ByteArray := prog_4_method_1_code
def yX2_init : MethodName := ⟨RX2, "<init>", "(III)V"⟩
abbrev cX2_toldValue : ByteArray := prog_4_method_2_code
def yX2_toldValue : MethodName := ⟨RX2, "toldValue", "()I"⟩
abbrev cX2_linkCount : ByteArray := prog_4_method_3_code
def yX2_linkCount : MethodName := ⟨RX2, "linkCount", "()I"⟩
abbrev cX2_link : ByteArray := prog_4_method_4_code
def yX2_link : MethodName := ⟨RX2, "link", "(I)LObjectLoads$Thing;"⟩
def RX3 : String := "ObjectLoads$Empty"
def TX3 : u_T := fun k => match k with
  | 0 => ("ObjectLoads$Thing", "number", "I", true)
  | 1 => ("ObjectLoads$Thing", "places", "[LObjectLoads$Thing;", true)
  | 2 => ("ObjectLoads$Thing", "key", "I", false)
  | 3 => ("ObjectLoads$Thing", "v", "I", false)
  | 4 => ("ObjectLoads$Thing", "next", "LObjectLoads$Thing;", false)
  | 5 => ("ObjectLoads$Thing", "held", "Z", false)
  | _ => ("ObjectLoads$Thing", "timesAsked", "I", false)
def tyX3 : Nat → FieldType := fun k => match k with
  | 0 => .int
  | 1 => .array (.object "ObjectLoads$Thing")
  | 2 => .int
  | 3 => .int
  | 4 => .object "ObjectLoads$Thing"
  | 5 => .boolean
  | _ => .int
abbrev wsX30 : List Cond := u_ws RX3 TX3 7
theorem nmX3 : ∀ a, a < 7 → ∀ b, b < 7 → a ≠ b → (TX3 a).2.1 ≠ (TX3 b).2.1 := by decide +kernel
theorem tyX3_ok : ∀ k, k < 7 → parseFieldDescriptor (TX3 k).2.2.1 = some (tyX3 k) := by decide +kernel
abbrev cX3_init : ByteArray := prog_5_method_1_code
def yX3_init : MethodName := ⟨RX3, "<init>", "(III)V"⟩
abbrev cX3_keyCause : ByteArray := prog_5_method_2_code
def yX3_keyCause : MethodName := ⟨RX3, "keyCause", "()I"⟩
def RX4 : String := "ObjectLoads$Graph"
def TX4 : u_T := fun k => match k with
  | 0 => ("ObjectLoads$Graph", "nodes", "[LObjectLoads$Node;", true)
  | 1 => ("ObjectLoads$Graph", "nodeOfThing", "[I", true)
  | 2 => ("ObjectLoads$Graph", "values", "[I", true)
  | 3 => ("ObjectLoads$Graph", "firstArc", "[I", true)
  | 4 => ("ObjectLoads$Graph", "arcEnds", "[I", true)
  | 5 => ("ObjectLoads$Graph", "arcWeights", "[I", true)
  | 6 => ("ObjectLoads$Graph", "arcBridged", "[Z", true)
  | 7 => ("ObjectLoads$Graph", "steps", "[I", true)
  | 8 => ("ObjectLoads$Graph", "reached", "[I", true)
  | 9 => ("ObjectLoads$Graph", "nodeCount", "I", false)
  | 10 => ("ObjectLoads$Graph", "arcCount", "I", false)
  | _ => ("ObjectLoads$Graph", "holeCount", "I", false)
def tyX4 : Nat → FieldType := fun k => match k with
  | 0 => .array (.object "ObjectLoads$Node")
  | 1 => .array .int
  | 2 => .array .int
  | 3 => .array .int
  | 4 => .array .int
  | 5 => .array .int
  | 6 => .array .boolean
  | 7 => .array .int
  | 8 => .array .int
  | 9 => .int
  | 10 => .int
  | _ => .int
abbrev wsX40 : List Cond := u_ws RX4 TX4 12
theorem nmX4 : ∀ a, a < 12 → ∀ b, b < 12 → a ≠ b → (TX4 a).2.1 ≠ (TX4 b).2.1 := by decide +kernel
theorem tyX4_ok : ∀ k, k < 12 → parseFieldDescriptor (TX4 k).2.2.1 = some (tyX4 k) := by decide +kernel
abbrev cX4_init : ByteArray := prog_6_method_1_code
def yX4_init : MethodName := ⟨RX4, "<init>", "()V"⟩
abbrev cX4_makeEmpty : ByteArray := prog_6_method_2_code
def yX4_makeEmpty : MethodName := ⟨RX4, "makeEmpty", "()V"⟩
abbrev cX4_hasNode : ByteArray := prog_6_method_3_code
def yX4_hasNode : MethodName := ⟨RX4, "hasNode", "(I)Z"⟩
abbrev cX4_arcsOf : ByteArray := prog_6_method_4_code
def yX4_arcsOf : MethodName := ⟨RX4, "arcsOf", "(I)I"⟩
abbrev cX4_findNode : ByteArray := prog_6_method_5_code
def yX4_findNode : MethodName := ⟨RX4, "findNode", "(LObjectLoads$Node;)I"⟩
abbrev cX4_addArc : ByteArray := prog_6_method_6_code
def yX4_addArc : MethodName := ⟨RX4, "addArc", "(LObjectLoads$Node;IZ)V"⟩
abbrev cX4_endArcsOf : ByteArray := prog_6_method_7_code
def yX4_endArcsOf : MethodName := ⟨RX4, "endArcsOf", "(I)V"⟩
abbrev cX4_shortestWay : ByteArray := prog_6_method_8_code
def yX4_shortestWay : MethodName := ⟨RX4, "shortestWay", "(II)I"⟩
def RX5 : String := "ObjectLoads$Masked"
def TX5 : u_T := fun k => match k with
  | 0 => ("ObjectLoads$Thing", "number", "I", true)
  | 1 => ("ObjectLoads$Thing", "places", "[LObjectLoads$Thing;", true)
  | 2 => ("ObjectLoads$Thing", "key", "I", false)
  | 3 => ("ObjectLoads$Thing", "v", "I", false)
  | 4 => ("ObjectLoads$Thing", "next", "LObjectLoads$Thing;", false)
  | 5 => ("ObjectLoads$Thing", "held", "Z", false)
  | _ => ("ObjectLoads$Thing", "timesAsked", "I", false)
def tyX5 : Nat → FieldType := fun k => match k with
  | 0 => .int
  | 1 => .array (.object "ObjectLoads$Thing")
  | 2 => .int
  | 3 => .int
  | 4 => .object "ObjectLoads$Thing"
  | 5 => .boolean
  | _ => .int
abbrev wsX50 : List Cond := u_ws RX5 TX5 7
theorem nmX5 : ∀ a, a < 7 → ∀ b, b < 7 → a ≠ b → (TX5 a).2.1 ≠ (TX5 b).2.1 := by decide +kernel
theorem tyX5_ok : ∀ k, k < 7 → parseFieldDescriptor (TX5 k).2.2.1 = some (tyX5 k) := by decide +kernel
abbrev cX5_init : ByteArray := prog_7_method_1_code
def yX5_init : MethodName := ⟨RX5, "<init>", "(III)V"⟩
abbrev cX5_toldValue : ByteArray := prog_7_method_2_code
def yX5_toldValue : MethodName := ⟨RX5, "toldValue", "()I"⟩
abbrev cX5_linksCause : ByteArray := prog_7_method_3_code
def yX5_linksCause : MethodName := ⟨RX5, "linksCause", "()I"⟩
def RX6 : String := "ObjectLoads$Node"
def TX6 : u_T := fun k => match k with
  | _ => ("", "", "", false)
def tyX6 : Nat → FieldType := fun k => match k with
  | _ => .int
abbrev wsX60 : List Cond := u_ws RX6 TX6 0
theorem nmX6 : ∀ a, a < 0 → ∀ b, b < 0 → a ≠ b → (TX6 a).2.1 ≠ (TX6 b).2.1 := by decide +kernel
theorem tyX6_ok : ∀ k, k < 0 → parseFieldDescriptor (TX6 k).2.2.1 = some (tyX6 k) := by decide +kernel
abbrev cX6_init : ByteArray := prog_8_method_1_code
def yX6_init : MethodName := ⟨RX6, "<init>", "(III)V"⟩
def RX7 : String := "ObjectLoads$Point"
def TX7 : u_T := fun k => match k with
  | 0 => ("ObjectLoads$Thing", "number", "I", true)
  | 1 => ("ObjectLoads$Thing", "places", "[LObjectLoads$Thing;", true)
  | 2 => ("ObjectLoads$Thing", "key", "I", false)
  | 3 => ("ObjectLoads$Thing", "v", "I", false)
  | 4 => ("ObjectLoads$Thing", "next", "LObjectLoads$Thing;", false)
  | 5 => ("ObjectLoads$Thing", "held", "Z", false)
  | _ => ("ObjectLoads$Thing", "timesAsked", "I", false)
def tyX7 : Nat → FieldType := fun k => match k with
  | 0 => .int
  | 1 => .array (.object "ObjectLoads$Thing")
  | 2 => .int
  | 3 => .int
  | 4 => .object "ObjectLoads$Thing"
  | 5 => .boolean
  | _ => .int
abbrev wsX70 : List Cond := u_ws RX7 TX7 7
theorem nmX7 : ∀ a, a < 7 → ∀ b, b < 7 → a ≠ b → (TX7 a).2.1 ≠ (TX7 b).2.1 := by decide +kernel
theorem tyX7_ok : ∀ k, k < 7 → parseFieldDescriptor (TX7 k).2.2.1 = some (tyX7 k) := by decide +kernel
abbrev cX7_init : ByteArray := prog_9_method_1_code
def yX7_init : MethodName := ⟨RX7, "<init>", "(III)V"⟩
abbrev cX7_linksCause : ByteArray := prog_9_method_2_code
def yX7_linksCause : MethodName := ⟨RX7, "linksCause", "()I"⟩
abbrev cX7_linkCount : ByteArray := prog_9_method_3_code
def yX7_linkCount : MethodName := ⟨RX7, "linkCount", "()I"⟩
abbrev cX7_link : ByteArray := prog_9_method_4_code
def yX7_link : MethodName := ⟨RX7, "link", "(I)LObjectLoads$Thing;"⟩
def RX8 : String := "ObjectLoads$ShortCity"
def TX8 : u_T := fun k => match k with
  | 0 => ("ObjectLoads$Thing", "number", "I", true)
  | 1 => ("ObjectLoads$Thing", "places", "[LObjectLoads$Thing;", true)
  | 2 => ("ObjectLoads$Thing", "key", "I", false)
  | 3 => ("ObjectLoads$Thing", "v", "I", false)
  | 4 => ("ObjectLoads$Thing", "next", "LObjectLoads$Thing;", false)
  | 5 => ("ObjectLoads$Thing", "held", "Z", false)
  | _ => ("ObjectLoads$Thing", "timesAsked", "I", false)
def tyX8 : Nat → FieldType := fun k => match k with
  | 0 => .int
  | 1 => .array (.object "ObjectLoads$Thing")
  | 2 => .int
  | 3 => .int
  | 4 => .object "ObjectLoads$Thing"
  | 5 => .boolean
  | _ => .int
abbrev wsX80 : List Cond := u_ws RX8 TX8 7
theorem nmX8 : ∀ a, a < 7 → ∀ b, b < 7 → a ≠ b → (TX8 a).2.1 ≠ (TX8 b).2.1 := by decide +kernel
theorem tyX8_ok : ∀ k, k < 7 → parseFieldDescriptor (TX8 k).2.2.1 = some (tyX8 k) := by decide +kernel
abbrev cX8_init : ByteArray := prog_10_method_1_code
def yX8_init : MethodName := ⟨RX8, "<init>", "(III)V"⟩
abbrev cX8_toldValue : ByteArray := prog_10_method_2_code
def yX8_toldValue : MethodName := ⟨RX8, "toldValue", "()I"⟩
abbrev cX8_linksCause : ByteArray := prog_10_method_3_code
def yX8_linksCause : MethodName := ⟨RX8, "linksCause", "()I"⟩
abbrev cX8_linkCount : ByteArray := prog_10_method_4_code
def yX8_linkCount : MethodName := ⟨RX8, "linkCount", "()I"⟩
abbrev cX8_link : ByteArray := prog_10_method_5_code
def yX8_link : MethodName := ⟨RX8, "link", "(I)LObjectLoads$Thing;"⟩
def RX9 : String := "ObjectLoads$Thing"
def TX9 : u_T := fun k => match k with
  | _ => ("", "", "", false)
def tyX9 : Nat → FieldType := fun k => match k with
  | _ => .int
abbrev wsX90 : List Cond := u_ws RX9 TX9 0
theorem nmX9 : ∀ a, a < 0 → ∀ b, b < 0 → a ≠ b → (TX9 a).2.1 ≠ (TX9 b).2.1 := by decide +kernel
theorem tyX9_ok : ∀ k, k < 0 → parseFieldDescriptor (TX9 k).2.2.1 = some (tyX9 k) := by decide +kernel
abbrev cX9_init : ByteArray := prog_11_method_1_code
def yX9_init : MethodName := ⟨RX9, "<init>", "(III)V"⟩
abbrev cX9_keyCause : ByteArray := prog_11_method_2_code
def yX9_keyCause : MethodName := ⟨RX9, "keyCause", "()I"⟩
abbrev cX9_toldKey : ByteArray := prog_11_method_3_code
def yX9_toldKey : MethodName := ⟨RX9, "toldKey", "()I"⟩
abbrev cX9_valueCause : ByteArray := prog_11_method_4_code
def yX9_valueCause : MethodName := ⟨RX9, "valueCause", "()I"⟩
abbrev cX9_toldValue : ByteArray := prog_11_method_5_code
def yX9_toldValue : MethodName := ⟨RX9, "toldValue", "()I"⟩
abbrev cX9_linksCause : ByteArray := prog_11_method_6_code
def yX9_linksCause : MethodName := ⟨RX9, "linksCause", "()I"⟩
def RX10 : String := "ObjectLoads"
def TX10 : u_T := fun k => match k with
  | 0 => ("ObjectLoads", "things", "[LObjectLoads$Thing;", true)
  | 1 => ("ObjectLoads", "thingCount", "I", false)
  | 2 => ("ObjectLoads", "loaded", "LObjectLoads$Graph;", false)
  | 3 => ("ObjectLoads", "building", "LObjectLoads$Graph;", false)
  | 4 => ("ObjectLoads", "refusedThing", "I", false)
  | 5 => ("ObjectLoads", "refusedOther", "I", false)
  | 6 => ("ObjectLoads", "refusedCause", "I", false)
  | _ => ("ObjectLoads", "failedLoads", "I", false)
def tyX10 : Nat → FieldType := fun k => match k with
  | 0 => .array (.object "ObjectLoads$Thing")
  | 1 => .int
  | 2 => .object "ObjectLoads$Graph"
  | 3 => .object "ObjectLoads$Graph"
  | 4 => .int
  | 5 => .int
  | 6 => .int
  | _ => .int
abbrev wsX100 : List Cond := u_ws RX10 TX10 8
theorem nmX10 : ∀ a, a < 8 → ∀ b, b < 8 → a ≠ b → (TX10 a).2.1 ≠ (TX10 b).2.1 := by decide +kernel
theorem tyX10_ok : ∀ k, k < 8 → parseFieldDescriptor (TX10 k).2.2.1 = some (tyX10 k) := by decide +kernel
abbrev cX10_init : ByteArray := prog_1_method_1_code
def yX10_init : MethodName := ⟨RX10, "<init>", "()V"⟩
abbrev cX10_thing : ByteArray := prog_1_method_2_code
def yX10_thing : MethodName := ⟨RX10, "thing", "(III)I"⟩
abbrev cX10_value : ByteArray := prog_1_method_3_code
def yX10_value : MethodName := ⟨RX10, "value", "(II)I"⟩
abbrev cX10_key : ByteArray := prog_1_method_4_code
def yX10_key : MethodName := ⟨RX10, "key", "(II)I"⟩
abbrev cX10_next : ByteArray := prog_1_method_5_code
def yX10_next : MethodName := ⟨RX10, "next", "(II)I"⟩
abbrev cX10_place : ByteArray := prog_1_method_6_code
def yX10_place : MethodName := ⟨RX10, "place", "(III)I"⟩
abbrev cX10_hold : ByteArray := prog_1_method_7_code
def yX10_hold : MethodName := ⟨RX10, "hold", "(IZ)I"⟩
abbrev cX10_copy : ByteArray := prog_1_method_8_code
def yX10_copy : MethodName := ⟨RX10, "copy", "(IIIII)I"⟩
abbrev cX10_load : ByteArray := prog_1_method_9_code
def yX10_load : MethodName := ⟨RX10, "load", "(IZ)I"⟩
abbrev cX10_refused : ByteArray := prog_1_method_10_code
def yX10_refused : MethodName := ⟨RX10, "refused", "(I)I"⟩
abbrev cX10_node : ByteArray := prog_1_method_11_code
def yX10_node : MethodName := ⟨RX10, "node", "(I)I"⟩
abbrev cX10_of : ByteArray := prog_1_method_12_code
def yX10_of : MethodName := ⟨RX10, "of", "(I)I"⟩
abbrev cX10_column : ByteArray := prog_1_method_13_code
def yX10_column : MethodName := ⟨RX10, "column", "(I)I"⟩
abbrev cX10_arcs : ByteArray := prog_1_method_14_code
def yX10_arcs : MethodName := ⟨RX10, "arcs", "(I)I"⟩
abbrev cX10_arc : ByteArray := prog_1_method_15_code
def yX10_arc : MethodName := ⟨RX10, "arc", "(III)I"⟩
abbrev cX10_way : ByteArray := prog_1_method_16_code
def yX10_way : MethodName := ⟨RX10, "way", "(II)I"⟩
abbrev cX10_holes : ByteArray := prog_1_method_17_code
def yX10_holes : MethodName := ⟨RX10, "holes", "()I"⟩
abbrev cX10_asked : ByteArray := prog_1_method_18_code
def yX10_asked : MethodName := ⟨RX10, "asked", "(I)I"⟩
abbrev cX10_tells : ByteArray := prog_1_method_19_code
def yX10_tells : MethodName := ⟨RX10, "tells", "(II)I"⟩
abbrev cX10_is : ByteArray := prog_1_method_20_code
def yX10_is : MethodName := ⟨RX10, "is", "(II)I"⟩
abbrev cX10_count : ByteArray := prog_1_method_21_code
def yX10_count : MethodName := ⟨RX10, "count", "(I)I"⟩
abbrev cX10_clear : ByteArray := prog_1_method_22_code
def yX10_clear : MethodName := ⟨RX10, "clear", "()I"⟩
abbrev cX10_newThing : ByteArray := prog_1_method_23_code
def yX10_newThing : MethodName := ⟨RX10, "newThing", "(IIII)LObjectLoads$Thing;"⟩
abbrev cX10_isThing : ByteArray := prog_1_method_24_code
def yX10_isThing : MethodName := ⟨RX10, "isThing", "(I)Z"⟩
abbrev cX10_isThingOrNone : ByteArray := prog_1_method_25_code
def yX10_isThingOrNone : MethodName := ⟨RX10, "isThingOrNone", "(I)Z"⟩
abbrev cX10_known : ByteArray := prog_1_method_26_code
def yX10_known : MethodName := ⟨RX10, "known", "(I)LObjectLoads$Thing;"⟩
abbrev cX10_isPlace : ByteArray := prog_1_method_27_code
def yX10_isPlace : MethodName := ⟨RX10, "isPlace", "(I)Z"⟩
abbrev cX10_isStretch : ByteArray := prog_1_method_28_code
def yX10_isStretch : MethodName := ⟨RX10, "isStretch", "(II)Z"⟩
abbrev cX10_asNumber : ByteArray := prog_1_method_29_code
def yX10_asNumber : MethodName := ⟨RX10, "asNumber", "(Z)I"⟩
abbrev cX10_toldOrFailed : ByteArray := prog_1_method_30_code
def yX10_toldOrFailed : MethodName := ⟨RX10, "toldOrFailed", "(II)I"⟩
abbrev cX10_countUpToBridge : ByteArray := prog_1_method_31_code
def yX10_countUpToBridge : MethodName := ⟨RX10, "countUpToBridge", "([LObjectLoads$Thing;II)I"⟩
abbrev cX10_copyStretch : ByteArray := prog_1_method_32_code
def yX10_copyStretch : MethodName := ⟨RX10, "copyStretch", "([LObjectLoads$Thing;I[LObjectLoads$Thing;II)V"⟩
abbrev cX10_endLoad : ByteArray := prog_1_method_33_code
def yX10_endLoad : MethodName := ⟨RX10, "endLoad", "(III)V"⟩
abbrev cX10_failed : ByteArray := prog_1_method_34_code
def yX10_failed : MethodName := ⟨RX10, "failed", "(LObjectLoads$Thing;I)Z"⟩
abbrev cX10_build : ByteArray := prog_1_method_35_code
def yX10_build : MethodName := ⟨RX10, "build", "(LObjectLoads$Node;Z)Z"⟩
abbrev cX10_askKey : ByteArray := prog_1_method_36_code
def yX10_askKey : MethodName := ⟨RX10, "askKey", "(ILObjectLoads$Node;)Z"⟩
abbrev cX10_askValue : ByteArray := prog_1_method_37_code
def yX10_askValue : MethodName := ⟨RX10, "askValue", "(ILObjectLoads$Node;)Z"⟩
abbrev cX10_askLinks : ByteArray := prog_1_method_38_code
def yX10_askLinks : MethodName := ⟨RX10, "askLinks", "(ILObjectLoads$Node;)Z"⟩
abbrev cX10_follow : ByteArray := prog_1_method_39_code
def yX10_follow : MethodName := ⟨RX10, "follow", "(LObjectLoads$Node;LObjectLoads$Thing;)Z"⟩
abbrev cX10_cross : ByteArray := prog_1_method_40_code
def yX10_cross : MethodName := ⟨RX10, "cross", "(LObjectLoads$Node;LObjectLoads$Bridge;)Z"⟩
def RX11 : String := "ObjectLoadsModel"
def TX11 : u_T := fun k => match k with
  | 0 => ("ObjectLoadsModel", "things", "I", false)
  | 1 => ("ObjectLoadsModel", "sorts", "[I", true)
  | 2 => ("ObjectLoadsModel", "keys", "[I", true)
  | 3 => ("ObjectLoadsModel", "vs", "[I", true)
  | 4 => ("ObjectLoadsModel", "nexts", "[I", true)
  | 5 => ("ObjectLoadsModel", "places", "[I", true)
  | 6 => ("ObjectLoadsModel", "isHeld", "[Z", true)
  | 7 => ("ObjectLoadsModel", "askedOf", "[I", true)
  | 8 => ("ObjectLoadsModel", "moved", "[I", true)
  | 9 => ("ObjectLoadsModel", "told", "I", false)
  | 10 => ("ObjectLoadsModel", "links", "[I", true)
  | 11 => ("ObjectLoadsModel", "linkMany", "I", false)
  | 12 => ("ObjectLoadsModel", "now", "I", false)
  | 13 => ("ObjectLoadsModel", "nodes", "[I", true)
  | 14 => ("ObjectLoadsModel", "thingOf", "[I", true)
  | 15 => ("ObjectLoadsModel", "nodeOf", "[I", true)
  | 16 => ("ObjectLoadsModel", "columns", "[I", true)
  | 17 => ("ObjectLoadsModel", "firstArc", "[I", true)
  | 18 => ("ObjectLoadsModel", "arcsIn", "[I", true)
  | 19 => ("ObjectLoadsModel", "arcTo", "[I", true)
  | 20 => ("ObjectLoadsModel", "arcWeight", "[I", true)
  | 21 => ("ObjectLoadsModel", "arcBridge", "[Z", true)
  | 22 => ("ObjectLoadsModel", "holeMany", "[I", true)
  | 23 => ("ObjectLoadsModel", "failed", "I", false)
  | 24 => ("ObjectLoadsModel", "refusedThing", "I", false)
  | 25 => ("ObjectLoadsModel", "refusedOther", "I", false)
  | 26 => ("ObjectLoadsModel", "refusedCause", "I", false)
  | 27 => ("ObjectLoadsModel", "keyOf", "[I", true)
  | _ => ("ObjectLoadsModel", "far", "[I", true)
def tyX11 : Nat → FieldType := fun k => match k with
  | 0 => .int
  | 1 => .array .int
  | 2 => .array .int
  | 3 => .array .int
  | 4 => .array .int
  | 5 => .array .int
  | 6 => .array .boolean
  | 7 => .array .int
  | 8 => .array .int
  | 9 => .int
  | 10 => .array .int
  | 11 => .int
  | 12 => .int
  | 13 => .array .int
  | 14 => .array .int
  | 15 => .array .int
  | 16 => .array .int
  | 17 => .array .int
  | 18 => .array .int
  | 19 => .array .int
  | 20 => .array .int
  | 21 => .array .boolean
  | 22 => .array .int
  | 23 => .int
  | 24 => .int
  | 25 => .int
  | 26 => .int
  | 27 => .array .int
  | _ => .array .int
abbrev wsX110 : List Cond := u_ws RX11 TX11 29
theorem nmX11 : ∀ a, a < 29 → ∀ b, b < 29 → a ≠ b → (TX11 a).2.1 ≠ (TX11 b).2.1 := by decide +kernel
theorem tyX11_ok : ∀ k, k < 29 → parseFieldDescriptor (TX11 k).2.2.1 = some (tyX11 k) := by decide +kernel
abbrev cX11_init : ByteArray := prog_13_method_1_code
def yX11_init : MethodName := ⟨RX11, "<init>", "()V"⟩
abbrev cX11_in : ByteArray := prog_13_method_3_code
def yX11_in : MethodName := ⟨RX11, "in", "(III)Z"⟩
abbrev cX11_isThing : ByteArray := prog_13_method_4_code
def yX11_isThing : MethodName := ⟨RX11, "isThing", "(I)Z"⟩
abbrev cX11_thing : ByteArray := prog_13_method_5_code
def yX11_thing : MethodName := ⟨RX11, "thing", "(III)I"⟩
abbrev cX11_value : ByteArray := prog_13_method_6_code
def yX11_value : MethodName := ⟨RX11, "value", "(II)I"⟩
abbrev cX11_key : ByteArray := prog_13_method_7_code
def yX11_key : MethodName := ⟨RX11, "key", "(II)I"⟩
abbrev cX11_next : ByteArray := prog_13_method_8_code
def yX11_next : MethodName := ⟨RX11, "next", "(II)I"⟩
abbrev cX11_place : ByteArray := prog_13_method_9_code
def yX11_place : MethodName := ⟨RX11, "place", "(III)I"⟩
abbrev cX11_hold : ByteArray := prog_13_method_10_code
def yX11_hold : MethodName := ⟨RX11, "hold", "(IZ)I"⟩
abbrev cX11_isBridge : ByteArray := prog_13_method_11_code
def yX11_isBridge : MethodName := ⟨RX11, "isBridge", "(I)Z"⟩
abbrev cX11_copy : ByteArray := prog_13_method_12_code
def yX11_copy : MethodName := ⟨RX11, "copy", "(IIIII)I"⟩
abbrev cX11_tellKey : ByteArray := prog_13_method_13_code
def yX11_tellKey : MethodName := ⟨RX11, "tellKey", "(I)I"⟩
abbrev cX11_tellValue : ByteArray := prog_13_method_14_code
def yX11_tellValue : MethodName := ⟨RX11, "tellValue", "(I)I"⟩
abbrev cX11_tellLinks : ByteArray := prog_13_method_15_code
def yX11_tellLinks : MethodName := ⟨RX11, "tellLinks", "(I)I"⟩
abbrev cX11_tellEnd : ByteArray := prog_13_method_16_code
def yX11_tellEnd : MethodName := ⟨RX11, "tellEnd", "(II)I"⟩
abbrev cX11_refuse : ByteArray := prog_13_method_17_code
def yX11_refuse : MethodName := ⟨RX11, "refuse", "(III)I"⟩
abbrev cX11_found : ByteArray := prog_13_method_18_code
def yX11_found : MethodName := ⟨RX11, "found", "(II)I"⟩
abbrev cX11_ask : ByteArray := prog_13_method_19_code
def yX11_ask : MethodName := ⟨RX11, "ask", "(IIZ)I"⟩
abbrev cX11_arcsOf : ByteArray := prog_13_method_20_code
def yX11_arcsOf : MethodName := ⟨RX11, "arcsOf", "(II)I"⟩
abbrev cX11_load : ByteArray := prog_13_method_21_code
def yX11_load : MethodName := ⟨RX11, "load", "(IZ)I"⟩
abbrev cX11_refused : ByteArray := prog_13_method_22_code
def yX11_refused : MethodName := ⟨RX11, "refused", "(I)I"⟩
abbrev cX11_node : ByteArray := prog_13_method_23_code
def yX11_node : MethodName := ⟨RX11, "node", "(I)I"⟩
abbrev cX11_isNode : ByteArray := prog_13_method_24_code
def yX11_isNode : MethodName := ⟨RX11, "isNode", "(I)Z"⟩
abbrev cX11_of : ByteArray := prog_13_method_25_code
def yX11_of : MethodName := ⟨RX11, "of", "(I)I"⟩
abbrev cX11_column : ByteArray := prog_13_method_26_code
def yX11_column : MethodName := ⟨RX11, "column", "(I)I"⟩
abbrev cX11_arcs : ByteArray := prog_13_method_27_code
def yX11_arcs : MethodName := ⟨RX11, "arcs", "(I)I"⟩
abbrev cX11_arc : ByteArray := prog_13_method_28_code
def yX11_arc : MethodName := ⟨RX11, "arc", "(III)I"⟩
abbrev cX11_way : ByteArray := prog_13_method_29_code
def yX11_way : MethodName := ⟨RX11, "way", "(II)I"⟩
abbrev cX11_holes : ByteArray := prog_13_method_30_code
def yX11_holes : MethodName := ⟨RX11, "holes", "()I"⟩
abbrev cX11_asked : ByteArray := prog_13_method_31_code
def yX11_asked : MethodName := ⟨RX11, "asked", "(I)I"⟩
abbrev cX11_tells : ByteArray := prog_13_method_32_code
def yX11_tells : MethodName := ⟨RX11, "tells", "(II)I"⟩
abbrev cX11_is : ByteArray := prog_13_method_33_code
def yX11_is : MethodName := ⟨RX11, "is", "(II)I"⟩
abbrev cX11_count : ByteArray := prog_13_method_34_code
def yX11_count : MethodName := ⟨RX11, "count", "(I)I"⟩
abbrev cX11_beginAll : ByteArray := prog_13_method_35_code
def yX11_beginAll : MethodName := ⟨RX11, "beginAll", "()V"⟩
abbrev cX11_clear : ByteArray := prog_13_method_36_code
def yX11_clear : MethodName := ⟨RX11, "clear", "()I"⟩
def RJ7 : String := "java/util/Arrays"
abbrev cJ7_fill_53178 : ByteArray := prog_14_method_103_code
def yJ7_fill_53178 : MethodName := ⟨RJ7, "fill", "([II)V"⟩
def RL : String := "ObjectLoadsLaw"
abbrev cL_law : ByteArray := code
def yL_law : MethodName := ⟨RL, "law", "([I)Z"⟩
theorem dX0_init_0 : decode cX0_init 0 = .ok (.aload_n 0, 1) := by decide +kernel
theorem dX0_init_1 : decode cX0_init 1 = .ok (.iload_n 1, 1) := by decide +kernel
theorem dX0_init_2 : decode cX0_init 2 = .ok (.iload_n 2, 1) := by decide +kernel
theorem dX0_init_3 : decode cX0_init 3 = .ok (.iload_n 3, 1) := by decide +kernel
theorem dX0_init_4 : decode cX0_init 4 = .ok (.invokespecial 1, 3) := by decide +kernel
theorem dX0_init_7 : decode cX0_init 7 = .ok (.return_, 1) := by decide +kernel
theorem dX0_linkCount_0 : decode cX0_linkCount 0 = .ok (.iconst 2, 1) := by decide +kernel
theorem dX0_linkCount_1 : decode cX0_linkCount 1 = .ok (.ireturn, 1) := by decide +kernel
theorem dX0_otherEnd_0 : decode cX0_otherEnd 0 = .ok (.aload_n 0, 1) := by decide +kernel
theorem dX0_otherEnd_1 : decode cX0_otherEnd 1 = .ok (.getfield 7, 3) := by decide +kernel
theorem dX0_otherEnd_4 : decode cX0_otherEnd 4 = .ok (.iconst 0, 1) := by decide +kernel
theorem dX0_otherEnd_5 : decode cX0_otherEnd 5 = .ok (.aaload, 1) := by decide +kernel
theorem dX0_otherEnd_6 : decode cX0_otherEnd 6 = .ok (.aload_n 1, 1) := by decide +kernel
theorem dX0_otherEnd_7 : decode cX0_otherEnd 7 = .ok (.if_acmp .ne 12, 3) := by decide +kernel
theorem dX0_otherEnd_10 : decode cX0_otherEnd 10 = .ok (.aload_n 0, 1) := by decide +kernel
theorem dX0_otherEnd_11 : decode cX0_otherEnd 11 = .ok (.getfield 7, 3) := by decide +kernel
theorem dX0_otherEnd_14 : decode cX0_otherEnd 14 = .ok (.iconst 1, 1) := by decide +kernel
theorem dX0_otherEnd_15 : decode cX0_otherEnd 15 = .ok (.aaload, 1) := by decide +kernel
theorem dX0_otherEnd_16 : decode cX0_otherEnd 16 = .ok (.goto 9, 3) := by decide +kernel
theorem dX0_otherEnd_19 : decode cX0_otherEnd 19 = .ok (.aload_n 0, 1) := by decide +kernel
theorem dX0_otherEnd_20 : decode cX0_otherEnd 20 = .ok (.getfield 7, 3) := by decide +kernel
theorem dX0_otherEnd_23 : decode cX0_otherEnd 23 = .ok (.iconst 0, 1) := by decide +kernel
theorem dX0_otherEnd_24 : decode cX0_otherEnd 24 = .ok (.aaload, 1) := by decide +kernel
theorem dX0_otherEnd_25 : decode cX0_otherEnd 25 = .ok (.areturn, 1) := by decide +kernel
theorem dX1_init_0 : decode cX1_init 0 = .ok (.aload_n 0, 1) := by decide +kernel
theorem dX1_init_1 : decode cX1_init 1 = .ok (.iload_n 1, 1) := by decide +kernel
theorem dX1_init_2 : decode cX1_init 2 = .ok (.iload_n 2, 1) := by decide +kernel
theorem dX1_init_3 : decode cX1_init 3 = .ok (.iload_n 3, 1) := by decide +kernel
theorem dX1_init_4 : decode cX1_init 4 = .ok (.invokespecial 3, 3) := by decide +kernel
theorem dX1_init_7 : decode cX1_init 7 = .ok (.return_, 1) := by decide +kernel
theorem dX1_valueCause_0 : decode cX1_valueCause 0 = .ok (.aload_n 0, 1) := by decide +kernel
theorem dX1_valueCause_1 : decode cX1_valueCause 1 = .ok (.getfield 9, 3) := by decide +kernel
theorem dX1_valueCause_4 : decode cX1_valueCause 4 = .ok (.ifCond .ne 7, 3) := by decide +kernel
theorem dX1_valueCause_7 : decode cX1_valueCause 7 = .ok (.iconst 4, 1) := by decide +kernel
theorem dX1_valueCause_8 : decode cX1_valueCause 8 = .ok (.goto 4, 3) := by decide +kernel
theorem dX1_valueCause_11 : decode cX1_valueCause 11 = .ok (.iconst 0, 1) := by decide +kernel
theorem dX1_valueCause_12 : decode cX1_valueCause 12 = .ok (.ireturn, 1) := by decide +kernel
theorem dX1_toldValue_0 : decode cX1_toldValue 0 = .ok (.aload_n 0, 1) := by decide +kernel
theorem dX1_toldValue_1 : decode cX1_toldValue 1 = .ok (.getfield 9, 3) := by decide +kernel
theorem dX1_toldValue_4 : decode cX1_toldValue 4 = .ok (.ifCond .ne 7, 3) := by decide +kernel
theorem dX1_toldValue_7 : decode cX1_toldValue 7 = .ok (.iconst 0, 1) := by decide +kernel
theorem dX1_toldValue_8 : decode cX1_toldValue 8 = .ok (.goto 10, 3) := by decide +kernel
theorem dX1_toldValue_11 : decode cX1_toldValue 11 = .ok (.bipush 100, 2) := by decide +kernel
theorem dX1_toldValue_13 : decode cX1_toldValue 13 = .ok (.aload_n 0, 1) := by decide +kernel
theorem dX1_toldValue_14 : decode cX1_toldValue 14 = .ok (.getfield 9, 3) := by decide +kernel
theorem dX1_toldValue_17 : decode cX1_toldValue 17 = .ok (.idiv, 1) := by decide +kernel
theorem dX1_toldValue_18 : decode cX1_toldValue 18 = .ok (.ireturn, 1) := by decide +kernel
theorem dX2_init_0 : decode cX2_init 0 = .ok (.aload_n 0, 1) := by decide +kernel
theorem dX2_init_1 : decode cX2_init 1 = .ok (.iload_n 1, 1) := by decide +kernel
theorem dX2_init_2 : decode cX2_init 2 = .ok (.iload_n 2, 1) := by decide +kernel
theorem dX2_init_3 : decode cX2_init 3 = .ok (.iload_n 3, 1) := by decide +kernel
theorem dX2_init_4 : decode cX2_init 4 = .ok (.invokespecial 3, 3) := by decide +kernel
theorem dX2_init_7 : decode cX2_init 7 = .ok (.return_, 1) := by decide +kernel
theorem dX2_toldValue_0 : decode cX2_toldValue 0 = .ok (.iconst 2, 1) := by decide +kernel
theorem dX2_toldValue_1 : decode cX2_toldValue 1 = .ok (.aload_n 0, 1) := by decide +kernel
theorem dX2_toldValue_2 : decode cX2_toldValue 2 = .ok (.getfield 9, 3) := by decide +kernel
theorem dX2_toldValue_5 : decode cX2_toldValue 5 = .ok (.imul, 1) := by decide +kernel
theorem dX2_toldValue_6 : decode cX2_toldValue 6 = .ok (.ireturn, 1) := by decide +kernel
theorem dX2_linkCount_0 : decode cX2_linkCount 0 = .ok (.bipush 6, 2) := by decide +kernel
theorem dX2_linkCount_2 : decode cX2_linkCount 2 = .ok (.ireturn, 1) := by decide +kernel
theorem dX2_link_0 : decode cX2_link 0 = .ok (.iload_n 1, 1) := by decide +kernel
theorem dX2_link_1 : decode cX2_link 1 = .ok (.invokestatic 15, 3) := by decide +kernel
theorem dX2_link_4 : decode cX2_link 4 = .ok (.ifCond .eq 12, 3) := by decide +kernel
theorem dX2_link_7 : decode cX2_link 7 = .ok (.aload_n 0, 1) := by decide +kernel
theorem dX2_link_8 : decode cX2_link 8 = .ok (.getfield 19, 3) := by decide +kernel
theorem dX2_link_11 : decode cX2_link 11 = .ok (.iload_n 1, 1) := by decide +kernel
theorem dX2_link_12 : decode cX2_link 12 = .ok (.aaload, 1) := by decide +kernel
theorem dX2_link_13 : decode cX2_link 13 = .ok (.goto 4, 3) := by decide +kernel
theorem dX2_link_16 : decode cX2_link 16 = .ok (.aconst_null, 1) := by decide +kernel
theorem dX2_link_17 : decode cX2_link 17 = .ok (.areturn, 1) := by decide +kernel
theorem dX3_init_0 : decode cX3_init 0 = .ok (.aload_n 0, 1) := by decide +kernel
theorem dX3_init_1 : decode cX3_init 1 = .ok (.iload_n 1, 1) := by decide +kernel
theorem dX3_init_2 : decode cX3_init 2 = .ok (.iload_n 2, 1) := by decide +kernel
theorem dX3_init_3 : decode cX3_init 3 = .ok (.iload_n 3, 1) := by decide +kernel
theorem dX3_init_4 : decode cX3_init 4 = .ok (.invokespecial 3, 3) := by decide +kernel
theorem dX3_init_7 : decode cX3_init 7 = .ok (.return_, 1) := by decide +kernel
theorem dX3_keyCause_0 : decode cX3_keyCause 0 = .ok (.aload_n 0, 1) := by decide +kernel
theorem dX3_keyCause_1 : decode cX3_keyCause 1 = .ok (.getfield 9, 3) := by decide +kernel
theorem dX3_keyCause_4 : decode cX3_keyCause 4 = .ok (.ifCond .eq 7, 3) := by decide +kernel
theorem dX3_keyCause_7 : decode cX3_keyCause 7 = .ok (.iconst 0, 1) := by decide +kernel
theorem dX3_keyCause_8 : decode cX3_keyCause 8 = .ok (.goto 4, 3) := by decide +kernel
theorem dX3_keyCause_11 : decode cX3_keyCause 11 = .ok (.iconst 1, 1) := by decide +kernel
theorem dX3_keyCause_12 : decode cX3_keyCause 12 = .ok (.ireturn, 1) := by decide +kernel
theorem dX4_init_0 : decode cX4_init 0 = .ok (.aload_n 0, 1) := by decide +kernel
theorem dX4_init_1 : decode cX4_init 1 = .ok (.invokespecial 3, 3) := by decide +kernel
theorem dX4_init_4 : decode cX4_init 4 = .ok (.aload_n 0, 1) := by decide +kernel
theorem dX4_init_5 : decode cX4_init 5 = .ok (.bipush 40, 2) := by decide +kernel
theorem dX4_init_7 : decode cX4_init 7 = .ok (.anewarray 9, 3) := by decide +kernel
theorem dX4_init_10 : decode cX4_init 10 = .ok (.putfield 11, 3) := by decide +kernel
theorem dX4_init_13 : decode cX4_init 13 = .ok (.aload_n 0, 1) := by decide +kernel
theorem dX4_init_14 : decode cX4_init 14 = .ok (.bipush 40, 2) := by decide +kernel
theorem dX4_init_16 : decode cX4_init 16 = .ok (.newarray .int, 2) := by decide +kernel
theorem dX4_init_18 : decode cX4_init 18 = .ok (.putfield 17, 3) := by decide +kernel
theorem dX4_init_21 : decode cX4_init 21 = .ok (.aload_n 0, 1) := by decide +kernel
theorem dX4_init_22 : decode cX4_init 22 = .ok (.bipush 40, 2) := by decide +kernel
theorem dX4_init_24 : decode cX4_init 24 = .ok (.newarray .int, 2) := by decide +kernel
theorem dX4_init_26 : decode cX4_init 26 = .ok (.putfield 21, 3) := by decide +kernel
theorem dX4_init_29 : decode cX4_init 29 = .ok (.aload_n 0, 1) := by decide +kernel
theorem dX4_init_30 : decode cX4_init 30 = .ok (.bipush 41, 2) := by decide +kernel
theorem dX4_init_32 : decode cX4_init 32 = .ok (.newarray .int, 2) := by decide +kernel
theorem dX4_init_34 : decode cX4_init 34 = .ok (.putfield 24, 3) := by decide +kernel
theorem dX4_init_37 : decode cX4_init 37 = .ok (.aload_n 0, 1) := by decide +kernel
theorem dX4_init_38 : decode cX4_init 38 = .ok (.sipush 240, 3) := by decide +kernel
theorem dX4_init_41 : decode cX4_init 41 = .ok (.newarray .int, 2) := by decide +kernel
theorem dX4_init_43 : decode cX4_init 43 = .ok (.putfield 27, 3) := by decide +kernel
theorem dX4_init_46 : decode cX4_init 46 = .ok (.aload_n 0, 1) := by decide +kernel
theorem dX4_init_47 : decode cX4_init 47 = .ok (.sipush 240, 3) := by decide +kernel
theorem dX4_init_50 : decode cX4_init 50 = .ok (.newarray .int, 2) := by decide +kernel
theorem dX4_init_52 : decode cX4_init 52 = .ok (.putfield 30, 3) := by decide +kernel
theorem dX4_init_55 : decode cX4_init 55 = .ok (.aload_n 0, 1) := by decide +kernel
theorem dX4_init_56 : decode cX4_init 56 = .ok (.sipush 240, 3) := by decide +kernel
theorem dX4_init_59 : decode cX4_init 59 = .ok (.newarray .boolean, 2) := by decide +kernel
theorem dX4_init_61 : decode cX4_init 61 = .ok (.putfield 33, 3) := by decide +kernel
theorem dX4_init_64 : decode cX4_init 64 = .ok (.aload_n 0, 1) := by decide +kernel
theorem dX4_init_65 : decode cX4_init 65 = .ok (.bipush 40, 2) := by decide +kernel
theorem dX4_init_67 : decode cX4_init 67 = .ok (.newarray .int, 2) := by decide +kernel
theorem dX4_init_69 : decode cX4_init 69 = .ok (.putfield 37, 3) := by decide +kernel
theorem dX4_init_72 : decode cX4_init 72 = .ok (.aload_n 0, 1) := by decide +kernel
theorem dX4_init_73 : decode cX4_init 73 = .ok (.bipush 40, 2) := by decide +kernel
theorem dX4_init_75 : decode cX4_init 75 = .ok (.newarray .int, 2) := by decide +kernel
theorem dX4_init_77 : decode cX4_init 77 = .ok (.putfield 40, 3) := by decide +kernel
theorem dX4_init_80 : decode cX4_init 80 = .ok (.aload_n 0, 1) := by decide +kernel
theorem dX4_init_81 : decode cX4_init 81 = .ok (.iconst 0, 1) := by decide +kernel
theorem dX4_init_82 : decode cX4_init 82 = .ok (.putfield 43, 3) := by decide +kernel
theorem dX4_init_85 : decode cX4_init 85 = .ok (.aload_n 0, 1) := by decide +kernel
theorem dX4_init_86 : decode cX4_init 86 = .ok (.iconst 0, 1) := by decide +kernel
theorem dX4_init_87 : decode cX4_init 87 = .ok (.putfield 47, 3) := by decide +kernel
theorem dX4_init_90 : decode cX4_init 90 = .ok (.aload_n 0, 1) := by decide +kernel
theorem dX4_init_91 : decode cX4_init 91 = .ok (.iconst 0, 1) := by decide +kernel
theorem dX4_init_92 : decode cX4_init 92 = .ok (.putfield 50, 3) := by decide +kernel
theorem dX4_init_95 : decode cX4_init 95 = .ok (.aload_n 0, 1) := by decide +kernel
theorem dX4_init_96 : decode cX4_init 96 = .ok (.getfield 17, 3) := by decide +kernel
theorem dX4_init_99 : decode cX4_init 99 = .ok (.ldc 53, 2) := by decide +kernel
theorem dX4_init_101 : decode cX4_init 101 = .ok (.invokestatic 54, 3) := by decide +kernel
theorem dX4_init_104 : decode cX4_init 104 = .ok (.return_, 1) := by decide +kernel
theorem dX4_makeEmpty_0 : decode cX4_makeEmpty 0 = .ok (.aload_n 0, 1) := by decide +kernel
theorem dX4_makeEmpty_1 : decode cX4_makeEmpty 1 = .ok (.getfield 17, 3) := by decide +kernel
theorem dX4_makeEmpty_4 : decode cX4_makeEmpty 4 = .ok (.ldc 53, 2) := by decide +kernel
theorem dX4_makeEmpty_6 : decode cX4_makeEmpty 6 = .ok (.invokestatic 54, 3) := by decide +kernel
theorem dX4_makeEmpty_9 : decode cX4_makeEmpty 9 = .ok (.aload_n 0, 1) := by decide +kernel
theorem dX4_makeEmpty_10 : decode cX4_makeEmpty 10 = .ok (.iconst 0, 1) := by decide +kernel
theorem dX4_makeEmpty_11 : decode cX4_makeEmpty 11 = .ok (.putfield 43, 3) := by decide +kernel
theorem dX4_makeEmpty_14 : decode cX4_makeEmpty 14 = .ok (.aload_n 0, 1) := by decide +kernel
theorem dX4_makeEmpty_15 : decode cX4_makeEmpty 15 = .ok (.iconst 0, 1) := by decide +kernel
theorem dX4_makeEmpty_16 : decode cX4_makeEmpty 16 = .ok (.putfield 47, 3) := by decide +kernel
theorem dX4_makeEmpty_19 : decode cX4_makeEmpty 19 = .ok (.aload_n 0, 1) := by decide +kernel
theorem dX4_makeEmpty_20 : decode cX4_makeEmpty 20 = .ok (.iconst 0, 1) := by decide +kernel
theorem dX4_makeEmpty_21 : decode cX4_makeEmpty 21 = .ok (.putfield 50, 3) := by decide +kernel
theorem dX4_makeEmpty_24 : decode cX4_makeEmpty 24 = .ok (.return_, 1) := by decide +kernel
theorem dX4_hasNode_0 : decode cX4_hasNode 0 = .ok (.iload_n 1, 1) := by decide +kernel
theorem dX4_hasNode_1 : decode cX4_hasNode 1 = .ok (.ifCond .lt 15, 3) := by decide +kernel
theorem dX4_hasNode_4 : decode cX4_hasNode 4 = .ok (.iload_n 1, 1) := by decide +kernel
theorem dX4_hasNode_5 : decode cX4_hasNode 5 = .ok (.aload_n 0, 1) := by decide +kernel
theorem dX4_hasNode_6 : decode cX4_hasNode 6 = .ok (.getfield 43, 3) := by decide +kernel
theorem dX4_hasNode_9 : decode cX4_hasNode 9 = .ok (.if_icmp .ge 7, 3) := by decide +kernel
theorem dX4_hasNode_12 : decode cX4_hasNode 12 = .ok (.iconst 1, 1) := by decide +kernel
theorem dX4_hasNode_13 : decode cX4_hasNode 13 = .ok (.goto 4, 3) := by decide +kernel
theorem dX4_hasNode_16 : decode cX4_hasNode 16 = .ok (.iconst 0, 1) := by decide +kernel
theorem dX4_hasNode_17 : decode cX4_hasNode 17 = .ok (.ireturn, 1) := by decide +kernel
theorem dX4_arcsOf_0 : decode cX4_arcsOf 0 = .ok (.aload_n 0, 1) := by decide +kernel
theorem dX4_arcsOf_1 : decode cX4_arcsOf 1 = .ok (.getfield 24, 3) := by decide +kernel
theorem dX4_arcsOf_4 : decode cX4_arcsOf 4 = .ok (.iload_n 1, 1) := by decide +kernel
theorem dX4_arcsOf_5 : decode cX4_arcsOf 5 = .ok (.iconst 1, 1) := by decide +kernel
theorem dX4_arcsOf_6 : decode cX4_arcsOf 6 = .ok (.iadd, 1) := by decide +kernel
theorem dX4_arcsOf_7 : decode cX4_arcsOf 7 = .ok (.iaload, 1) := by decide +kernel
theorem dX4_arcsOf_8 : decode cX4_arcsOf 8 = .ok (.aload_n 0, 1) := by decide +kernel
theorem dX4_arcsOf_9 : decode cX4_arcsOf 9 = .ok (.getfield 24, 3) := by decide +kernel
theorem dX4_arcsOf_12 : decode cX4_arcsOf 12 = .ok (.iload_n 1, 1) := by decide +kernel
theorem dX4_arcsOf_13 : decode cX4_arcsOf 13 = .ok (.iaload, 1) := by decide +kernel
theorem dX4_arcsOf_14 : decode cX4_arcsOf 14 = .ok (.isub, 1) := by decide +kernel
theorem dX4_arcsOf_15 : decode cX4_arcsOf 15 = .ok (.ireturn, 1) := by decide +kernel
theorem dX4_findNode_0 : decode cX4_findNode 0 = .ok (.aload_n 0, 1) := by decide +kernel
theorem dX4_findNode_1 : decode cX4_findNode 1 = .ok (.getfield 17, 3) := by decide +kernel
theorem dX4_findNode_4 : decode cX4_findNode 4 = .ok (.aload_n 1, 1) := by decide +kernel
theorem dX4_findNode_5 : decode cX4_findNode 5 = .ok (.getfield 60, 3) := by decide +kernel
theorem dX4_findNode_8 : decode cX4_findNode 8 = .ok (.iaload, 1) := by decide +kernel
theorem dX4_findNode_9 : decode cX4_findNode 9 = .ok (.istore_n 2, 1) := by decide +kernel
theorem dX4_findNode_10 : decode cX4_findNode 10 = .ok (.iload_n 2, 1) := by decide +kernel
theorem dX4_findNode_11 : decode cX4_findNode 11 = .ok (.ldc 53, 2) := by decide +kernel
theorem dX4_findNode_13 : decode cX4_findNode 13 = .ok (.if_icmp .ne 35, 3) := by decide +kernel
theorem dX4_findNode_16 : decode cX4_findNode 16 = .ok (.aload_n 0, 1) := by decide +kernel
theorem dX4_findNode_17 : decode cX4_findNode 17 = .ok (.getfield 43, 3) := by decide +kernel
theorem dX4_findNode_20 : decode cX4_findNode 20 = .ok (.istore_n 2, 1) := by decide +kernel
theorem dX4_findNode_21 : decode cX4_findNode 21 = .ok (.aload_n 0, 1) := by decide +kernel
theorem dX4_findNode_22 : decode cX4_findNode 22 = .ok (.getfield 11, 3) := by decide +kernel
theorem dX4_findNode_25 : decode cX4_findNode 25 = .ok (.iload_n 2, 1) := by decide +kernel
theorem dX4_findNode_26 : decode cX4_findNode 26 = .ok (.aload_n 1, 1) := by decide +kernel
theorem dX4_findNode_27 : decode cX4_findNode 27 = .ok (.aastore, 1) := by decide +kernel
theorem dX4_findNode_28 : decode cX4_findNode 28 = .ok (.aload_n 0, 1) := by decide +kernel
theorem dX4_findNode_29 : decode cX4_findNode 29 = .ok (.getfield 17, 3) := by decide +kernel
theorem dX4_findNode_32 : decode cX4_findNode 32 = .ok (.aload_n 1, 1) := by decide +kernel
theorem dX4_findNode_33 : decode cX4_findNode 33 = .ok (.getfield 60, 3) := by decide +kernel
theorem dX4_findNode_36 : decode cX4_findNode 36 = .ok (.iload_n 2, 1) := by decide +kernel
theorem dX4_findNode_37 : decode cX4_findNode 37 = .ok (.iastore, 1) := by decide +kernel
theorem dX4_findNode_38 : decode cX4_findNode 38 = .ok (.aload_n 0, 1) := by decide +kernel
theorem dX4_findNode_39 : decode cX4_findNode 39 = .ok (.dup, 1) := by decide +kernel
theorem dX4_findNode_40 : decode cX4_findNode 40 = .ok (.getfield 43, 3) := by decide +kernel
theorem dX4_findNode_43 : decode cX4_findNode 43 = .ok (.iconst 1, 1) := by decide +kernel
theorem dX4_findNode_44 : decode cX4_findNode 44 = .ok (.iadd, 1) := by decide +kernel
theorem dX4_findNode_45 : decode cX4_findNode 45 = .ok (.putfield 43, 3) := by decide +kernel
theorem dX4_findNode_48 : decode cX4_findNode 48 = .ok (.iload_n 2, 1) := by decide +kernel
theorem dX4_findNode_49 : decode cX4_findNode 49 = .ok (.ireturn, 1) := by decide +kernel
theorem dX4_addArc_0 : decode cX4_addArc 0 = .ok (.aload_n 0, 1) := by decide +kernel
theorem dX4_addArc_1 : decode cX4_addArc 1 = .ok (.getfield 27, 3) := by decide +kernel
theorem dX4_addArc_4 : decode cX4_addArc 4 = .ok (.aload_n 0, 1) := by decide +kernel
theorem dX4_addArc_5 : decode cX4_addArc 5 = .ok (.getfield 47, 3) := by decide +kernel
theorem dX4_addArc_8 : decode cX4_addArc 8 = .ok (.aload_n 0, 1) := by decide +kernel
theorem dX4_addArc_9 : decode cX4_addArc 9 = .ok (.aload_n 1, 1) := by decide +kernel
theorem dX4_addArc_10 : decode cX4_addArc 10 = .ok (.invokevirtual 63, 3) := by decide +kernel
theorem dX4_addArc_13 : decode cX4_addArc 13 = .ok (.iastore, 1) := by decide +kernel
theorem dX4_addArc_14 : decode cX4_addArc 14 = .ok (.aload_n 0, 1) := by decide +kernel
theorem dX4_addArc_15 : decode cX4_addArc 15 = .ok (.getfield 30, 3) := by decide +kernel
theorem dX4_addArc_18 : decode cX4_addArc 18 = .ok (.aload_n 0, 1) := by decide +kernel
theorem dX4_addArc_19 : decode cX4_addArc 19 = .ok (.getfield 47, 3) := by decide +kernel
theorem dX4_addArc_22 : decode cX4_addArc 22 = .ok (.iload_n 2, 1) := by decide +kernel
theorem dX4_addArc_23 : decode cX4_addArc 23 = .ok (.iastore, 1) := by decide +kernel
theorem dX4_addArc_24 : decode cX4_addArc 24 = .ok (.aload_n 0, 1) := by decide +kernel
theorem dX4_addArc_25 : decode cX4_addArc 25 = .ok (.getfield 33, 3) := by decide +kernel
theorem dX4_addArc_28 : decode cX4_addArc 28 = .ok (.aload_n 0, 1) := by decide +kernel
theorem dX4_addArc_29 : decode cX4_addArc 29 = .ok (.getfield 47, 3) := by decide +kernel
theorem dX4_addArc_32 : decode cX4_addArc 32 = .ok (.iload_n 3, 1) := by decide +kernel
theorem dX4_addArc_33 : decode cX4_addArc 33 = .ok (.bastore, 1) := by decide +kernel
theorem dX4_addArc_34 : decode cX4_addArc 34 = .ok (.aload_n 0, 1) := by decide +kernel
theorem dX4_addArc_35 : decode cX4_addArc 35 = .ok (.dup, 1) := by decide +kernel
theorem dX4_addArc_36 : decode cX4_addArc 36 = .ok (.getfield 47, 3) := by decide +kernel
theorem dX4_addArc_39 : decode cX4_addArc 39 = .ok (.iconst 1, 1) := by decide +kernel
theorem dX4_addArc_40 : decode cX4_addArc 40 = .ok (.iadd, 1) := by decide +kernel
theorem dX4_addArc_41 : decode cX4_addArc 41 = .ok (.putfield 47, 3) := by decide +kernel
theorem dX4_addArc_44 : decode cX4_addArc 44 = .ok (.return_, 1) := by decide +kernel
theorem dX4_endArcsOf_0 : decode cX4_endArcsOf 0 = .ok (.aload_n 0, 1) := by decide +kernel
theorem dX4_endArcsOf_1 : decode cX4_endArcsOf 1 = .ok (.getfield 24, 3) := by decide +kernel
theorem dX4_endArcsOf_4 : decode cX4_endArcsOf 4 = .ok (.iload_n 1, 1) := by decide +kernel
theorem dX4_endArcsOf_5 : decode cX4_endArcsOf 5 = .ok (.iconst 1, 1) := by decide +kernel
theorem dX4_endArcsOf_6 : decode cX4_endArcsOf 6 = .ok (.iadd, 1) := by decide +kernel
theorem dX4_endArcsOf_7 : decode cX4_endArcsOf 7 = .ok (.aload_n 0, 1) := by decide +kernel
theorem dX4_endArcsOf_8 : decode cX4_endArcsOf 8 = .ok (.getfield 47, 3) := by decide +kernel
theorem dX4_endArcsOf_11 : decode cX4_endArcsOf 11 = .ok (.iastore, 1) := by decide +kernel
theorem dX4_endArcsOf_12 : decode cX4_endArcsOf 12 = .ok (.return_, 1) := by decide +kernel
theorem dX4_shortestWay_0 : decode cX4_shortestWay 0 = .ok (.aload_n 0, 1) := by decide +kernel
theorem dX4_shortestWay_1 : decode cX4_shortestWay 1 = .ok (.getfield 37, 3) := by decide +kernel
theorem dX4_shortestWay_4 : decode cX4_shortestWay 4 = .ok (.ldc 53, 2) := by decide +kernel
theorem dX4_shortestWay_6 : decode cX4_shortestWay 6 = .ok (.invokestatic 54, 3) := by decide +kernel
theorem dX4_shortestWay_9 : decode cX4_shortestWay 9 = .ok (.aload_n 0, 1) := by decide +kernel
theorem dX4_shortestWay_10 : decode cX4_shortestWay 10 = .ok (.getfield 37, 3) := by decide +kernel
theorem dX4_shortestWay_13 : decode cX4_shortestWay 13 = .ok (.iload_n 1, 1) := by decide +kernel
theorem dX4_shortestWay_14 : decode cX4_shortestWay 14 = .ok (.iconst 0, 1) := by decide +kernel
theorem dX4_shortestWay_15 : decode cX4_shortestWay 15 = .ok (.iastore, 1) := by decide +kernel
theorem dX4_shortestWay_16 : decode cX4_shortestWay 16 = .ok (.aload_n 0, 1) := by decide +kernel
theorem dX4_shortestWay_17 : decode cX4_shortestWay 17 = .ok (.getfield 40, 3) := by decide +kernel
theorem dX4_shortestWay_20 : decode cX4_shortestWay 20 = .ok (.iconst 0, 1) := by decide +kernel
theorem dX4_shortestWay_21 : decode cX4_shortestWay 21 = .ok (.iload_n 1, 1) := by decide +kernel
theorem dX4_shortestWay_22 : decode cX4_shortestWay 22 = .ok (.iastore, 1) := by decide +kernel
theorem dX4_shortestWay_23 : decode cX4_shortestWay 23 = .ok (.iconst 1, 1) := by decide +kernel
theorem dX4_shortestWay_24 : decode cX4_shortestWay 24 = .ok (.istore_n 3, 1) := by decide +kernel
theorem dX4_shortestWay_25 : decode cX4_shortestWay 25 = .ok (.iconst 0, 1) := by decide +kernel
theorem dX4_shortestWay_26 : decode cX4_shortestWay 26 = .ok (.istore 4, 2) := by decide +kernel
theorem dX4_shortestWay_28 : decode cX4_shortestWay 28 = .ok (.iload 4, 2) := by decide +kernel
theorem dX4_shortestWay_30 : decode cX4_shortestWay 30 = .ok (.bipush 40, 2) := by decide +kernel
theorem dX4_shortestWay_32 : decode cX4_shortestWay 32 = .ok (.if_icmp .ge 101, 3) := by decide +kernel
theorem dX4_shortestWay_35 : decode cX4_shortestWay 35 = .ok (.iload 4, 2) := by decide +kernel
theorem dX4_shortestWay_37 : decode cX4_shortestWay 37 = .ok (.iload_n 3, 1) := by decide +kernel
theorem dX4_shortestWay_38 : decode cX4_shortestWay 38 = .ok (.if_icmp .ge 95, 3) := by decide +kernel
theorem dX4_shortestWay_41 : decode cX4_shortestWay 41 = .ok (.aload_n 0, 1) := by decide +kernel
theorem dX4_shortestWay_42 : decode cX4_shortestWay 42 = .ok (.getfield 40, 3) := by decide +kernel
theorem dX4_shortestWay_45 : decode cX4_shortestWay 45 = .ok (.iload 4, 2) := by decide +kernel
theorem dX4_shortestWay_47 : decode cX4_shortestWay 47 = .ok (.iaload, 1) := by decide +kernel
theorem dX4_shortestWay_48 : decode cX4_shortestWay 48 = .ok (.istore 5, 2) := by decide +kernel
theorem dX4_shortestWay_50 : decode cX4_shortestWay 50 = .ok (.aload_n 0, 1) := by decide +kernel
theorem dX4_shortestWay_51 : decode cX4_shortestWay 51 = .ok (.getfield 24, 3) := by decide +kernel
theorem dX4_shortestWay_54 : decode cX4_shortestWay 54 = .ok (.iload 5, 2) := by decide +kernel
theorem dX4_shortestWay_56 : decode cX4_shortestWay 56 = .ok (.iaload, 1) := by decide +kernel
theorem dX4_shortestWay_57 : decode cX4_shortestWay 57 = .ok (.istore 6, 2) := by decide +kernel
theorem dX4_shortestWay_59 : decode cX4_shortestWay 59 = .ok (.iload 6, 2) := by decide +kernel
theorem dX4_shortestWay_61 : decode cX4_shortestWay 61 = .ok (.aload_n 0, 1) := by decide +kernel
theorem dX4_shortestWay_62 : decode cX4_shortestWay 62 = .ok (.getfield 24, 3) := by decide +kernel
theorem dX4_shortestWay_65 : decode cX4_shortestWay 65 = .ok (.iload 5, 2) := by decide +kernel
theorem dX4_shortestWay_67 : decode cX4_shortestWay 67 = .ok (.iconst 1, 1) := by decide +kernel
theorem dX4_shortestWay_68 : decode cX4_shortestWay 68 = .ok (.iadd, 1) := by decide +kernel
theorem dX4_shortestWay_69 : decode cX4_shortestWay 69 = .ok (.iaload, 1) := by decide +kernel
theorem dX4_shortestWay_70 : decode cX4_shortestWay 70 = .ok (.if_icmp .ge 57, 3) := by decide +kernel
theorem dX4_shortestWay_73 : decode cX4_shortestWay 73 = .ok (.aload_n 0, 1) := by decide +kernel
theorem dX4_shortestWay_74 : decode cX4_shortestWay 74 = .ok (.getfield 27, 3) := by decide +kernel
theorem dX4_shortestWay_77 : decode cX4_shortestWay 77 = .ok (.iload 6, 2) := by decide +kernel
theorem dX4_shortestWay_79 : decode cX4_shortestWay 79 = .ok (.iaload, 1) := by decide +kernel
theorem dX4_shortestWay_80 : decode cX4_shortestWay 80 = .ok (.istore 7, 2) := by decide +kernel
theorem dX4_shortestWay_82 : decode cX4_shortestWay 82 = .ok (.aload_n 0, 1) := by decide +kernel
theorem dX4_shortestWay_83 : decode cX4_shortestWay 83 = .ok (.getfield 37, 3) := by decide +kernel
theorem dX4_shortestWay_86 : decode cX4_shortestWay 86 = .ok (.iload 7, 2) := by decide +kernel
theorem dX4_shortestWay_88 : decode cX4_shortestWay 88 = .ok (.iaload, 1) := by decide +kernel
theorem dX4_shortestWay_89 : decode cX4_shortestWay 89 = .ok (.ldc 53, 2) := by decide +kernel
theorem dX4_shortestWay_91 : decode cX4_shortestWay 91 = .ok (.if_icmp .ne 30, 3) := by decide +kernel
theorem dX4_shortestWay_94 : decode cX4_shortestWay 94 = .ok (.aload_n 0, 1) := by decide +kernel
theorem dX4_shortestWay_95 : decode cX4_shortestWay 95 = .ok (.getfield 37, 3) := by decide +kernel
theorem dX4_shortestWay_98 : decode cX4_shortestWay 98 = .ok (.iload 7, 2) := by decide +kernel
theorem dX4_shortestWay_100 : decode cX4_shortestWay 100 = .ok (.aload_n 0, 1) := by decide +kernel
theorem dX4_shortestWay_101 : decode cX4_shortestWay 101 = .ok (.getfield 37, 3) := by decide +kernel
theorem dX4_shortestWay_104 : decode cX4_shortestWay 104 = .ok (.iload 5, 2) := by decide +kernel
theorem dX4_shortestWay_106 : decode cX4_shortestWay 106 = .ok (.iaload, 1) := by decide +kernel
theorem dX4_shortestWay_107 : decode cX4_shortestWay 107 = .ok (.iconst 1, 1) := by decide +kernel
theorem dX4_shortestWay_108 : decode cX4_shortestWay 108 = .ok (.iadd, 1) := by decide +kernel
theorem dX4_shortestWay_109 : decode cX4_shortestWay 109 = .ok (.iastore, 1) := by decide +kernel
theorem dX4_shortestWay_110 : decode cX4_shortestWay 110 = .ok (.aload_n 0, 1) := by decide +kernel
theorem dX4_shortestWay_111 : decode cX4_shortestWay 111 = .ok (.getfield 40, 3) := by decide +kernel
theorem dX4_shortestWay_114 : decode cX4_shortestWay 114 = .ok (.iload_n 3, 1) := by decide +kernel
theorem dX4_shortestWay_115 : decode cX4_shortestWay 115 = .ok (.iload 7, 2) := by decide +kernel
theorem dX4_shortestWay_117 : decode cX4_shortestWay 117 = .ok (.iastore, 1) := by decide +kernel
theorem dX4_shortestWay_118 : decode cX4_shortestWay 118 = .ok (.iinc 3 1, 3) := by decide +kernel
theorem dX4_shortestWay_121 : decode cX4_shortestWay 121 = .ok (.iinc 6 1, 3) := by decide +kernel
theorem dX4_shortestWay_124 : decode cX4_shortestWay 124 = .ok (.goto (-65), 3) := by decide +kernel
theorem dX4_shortestWay_127 : decode cX4_shortestWay 127 = .ok (.iinc 4 1, 3) := by decide +kernel
theorem dX4_shortestWay_130 : decode cX4_shortestWay 130 = .ok (.goto (-102), 3) := by decide +kernel
theorem dX4_shortestWay_133 : decode cX4_shortestWay 133 = .ok (.aload_n 0, 1) := by decide +kernel
theorem dX4_shortestWay_134 : decode cX4_shortestWay 134 = .ok (.getfield 37, 3) := by decide +kernel
theorem dX4_shortestWay_137 : decode cX4_shortestWay 137 = .ok (.iload_n 2, 1) := by decide +kernel
theorem dX4_shortestWay_138 : decode cX4_shortestWay 138 = .ok (.iaload, 1) := by decide +kernel
theorem dX4_shortestWay_139 : decode cX4_shortestWay 139 = .ok (.ireturn, 1) := by decide +kernel
theorem dX5_init_0 : decode cX5_init 0 = .ok (.aload_n 0, 1) := by decide +kernel
theorem dX5_init_1 : decode cX5_init 1 = .ok (.iload_n 1, 1) := by decide +kernel
theorem dX5_init_2 : decode cX5_init 2 = .ok (.iload_n 2, 1) := by decide +kernel
theorem dX5_init_3 : decode cX5_init 3 = .ok (.iload_n 3, 1) := by decide +kernel
theorem dX5_init_4 : decode cX5_init 4 = .ok (.invokespecial 3, 3) := by decide +kernel
theorem dX5_init_7 : decode cX5_init 7 = .ok (.return_, 1) := by decide +kernel
theorem dX5_toldValue_0 : decode cX5_toldValue 0 = .ok (.aload_n 0, 1) := by decide +kernel
theorem dX5_toldValue_1 : decode cX5_toldValue 1 = .ok (.invokespecial 9, 3) := by decide +kernel
theorem dX5_toldValue_4 : decode cX5_toldValue 4 = .ok (.iconst 1, 1) := by decide +kernel
theorem dX5_toldValue_5 : decode cX5_toldValue 5 = .ok (.iadd, 1) := by decide +kernel
theorem dX5_toldValue_6 : decode cX5_toldValue 6 = .ok (.ireturn, 1) := by decide +kernel
theorem dX5_linksCause_0 : decode cX5_linksCause 0 = .ok (.aload_n 0, 1) := by decide +kernel
theorem dX5_linksCause_1 : decode cX5_linksCause 1 = .ok (.getfield 13, 3) := by decide +kernel
theorem dX5_linksCause_4 : decode cX5_linksCause 4 = .ok (.iconst 0, 1) := by decide +kernel
theorem dX5_linksCause_5 : decode cX5_linksCause 5 = .ok (.bipush 6, 2) := by decide +kernel
theorem dX5_linksCause_7 : decode cX5_linksCause 7 = .ok (.invokestatic 19, 3) := by decide +kernel
theorem dX5_linksCause_10 : decode cX5_linksCause 10 = .ok (.bipush 6, 2) := by decide +kernel
theorem dX5_linksCause_12 : decode cX5_linksCause 12 = .ok (.if_icmp .ge 7, 3) := by decide +kernel
theorem dX5_linksCause_15 : decode cX5_linksCause 15 = .ok (.iconst 3, 1) := by decide +kernel
theorem dX5_linksCause_16 : decode cX5_linksCause 16 = .ok (.goto 4, 3) := by decide +kernel
theorem dX5_linksCause_19 : decode cX5_linksCause 19 = .ok (.iconst 0, 1) := by decide +kernel
theorem dX5_linksCause_20 : decode cX5_linksCause 20 = .ok (.ireturn, 1) := by decide +kernel
theorem dX6_init_0 : decode cX6_init 0 = .ok (.aload_n 0, 1) := by decide +kernel
theorem dX6_init_1 : decode cX6_init 1 = .ok (.iload_n 1, 1) := by decide +kernel
theorem dX6_init_2 : decode cX6_init 2 = .ok (.iload_n 2, 1) := by decide +kernel
theorem dX6_init_3 : decode cX6_init 3 = .ok (.iload_n 3, 1) := by decide +kernel
theorem dX6_init_4 : decode cX6_init 4 = .ok (.invokespecial 1, 3) := by decide +kernel
theorem dX6_init_7 : decode cX6_init 7 = .ok (.return_, 1) := by decide +kernel
theorem dX7_init_0 : decode cX7_init 0 = .ok (.aload_n 0, 1) := by decide +kernel
theorem dX7_init_1 : decode cX7_init 1 = .ok (.iload_n 1, 1) := by decide +kernel
theorem dX7_init_2 : decode cX7_init 2 = .ok (.iload_n 2, 1) := by decide +kernel
theorem dX7_init_3 : decode cX7_init 3 = .ok (.iload_n 3, 1) := by decide +kernel
theorem dX7_init_4 : decode cX7_init 4 = .ok (.invokespecial 3, 3) := by decide +kernel
theorem dX7_init_7 : decode cX7_init 7 = .ok (.return_, 1) := by decide +kernel
theorem dX7_linksCause_0 : decode cX7_linksCause 0 = .ok (.aload_n 0, 1) := by decide +kernel
theorem dX7_linksCause_1 : decode cX7_linksCause 1 = .ok (.getfield 9, 3) := by decide +kernel
theorem dX7_linksCause_4 : decode cX7_linksCause 4 = .ok (.instanceof 15, 3) := by decide +kernel
theorem dX7_linksCause_7 : decode cX7_linksCause 7 = .ok (.ifCond .eq 7, 3) := by decide +kernel
theorem dX7_linksCause_10 : decode cX7_linksCause 10 = .ok (.iconst 3, 1) := by decide +kernel
theorem dX7_linksCause_11 : decode cX7_linksCause 11 = .ok (.goto 4, 3) := by decide +kernel
theorem dX7_linksCause_14 : decode cX7_linksCause 14 = .ok (.iconst 0, 1) := by decide +kernel
theorem dX7_linksCause_15 : decode cX7_linksCause 15 = .ok (.ireturn, 1) := by decide +kernel
theorem dX7_linkCount_0 : decode cX7_linkCount 0 = .ok (.aload_n 0, 1) := by decide +kernel
theorem dX7_linkCount_1 : decode cX7_linkCount 1 = .ok (.getfield 9, 3) := by decide +kernel
theorem dX7_linkCount_4 : decode cX7_linkCount 4 = .ok (.ifnonnull 7, 3) := by decide +kernel
theorem dX7_linkCount_7 : decode cX7_linkCount 7 = .ok (.iconst 0, 1) := by decide +kernel
theorem dX7_linkCount_8 : decode cX7_linkCount 8 = .ok (.goto 4, 3) := by decide +kernel
theorem dX7_linkCount_11 : decode cX7_linkCount 11 = .ok (.iconst 1, 1) := by decide +kernel
theorem dX7_linkCount_12 : decode cX7_linkCount 12 = .ok (.ireturn, 1) := by decide +kernel
theorem dX7_link_0 : decode cX7_link 0 = .ok (.aload_n 0, 1) := by decide +kernel
theorem dX7_link_1 : decode cX7_link 1 = .ok (.getfield 9, 3) := by decide +kernel
theorem dX7_link_4 : decode cX7_link 4 = .ok (.areturn, 1) := by decide +kernel
theorem dX8_init_0 : decode cX8_init 0 = .ok (.aload_n 0, 1) := by decide +kernel
theorem dX8_init_1 : decode cX8_init 1 = .ok (.iload_n 1, 1) := by decide +kernel
theorem dX8_init_2 : decode cX8_init 2 = .ok (.iload_n 2, 1) := by decide +kernel
theorem dX8_init_3 : decode cX8_init 3 = .ok (.iload_n 3, 1) := by decide +kernel
theorem dX8_init_4 : decode cX8_init 4 = .ok (.invokespecial 3, 3) := by decide +kernel
theorem dX8_init_7 : decode cX8_init 7 = .ok (.return_, 1) := by decide +kernel
theorem dX8_toldValue_0 : decode cX8_toldValue 0 = .ok (.aload_n 0, 1) := by decide +kernel
theorem dX8_toldValue_1 : decode cX8_toldValue 1 = .ok (.getfield 9, 3) := by decide +kernel
theorem dX8_toldValue_4 : decode cX8_toldValue 4 = .ok (.ireturn, 1) := by decide +kernel
theorem dX8_linksCause_0 : decode cX8_linksCause 0 = .ok (.aload_n 0, 1) := by decide +kernel
theorem dX8_linksCause_1 : decode cX8_linksCause 1 = .ok (.getfield 9, 3) := by decide +kernel
theorem dX8_linksCause_4 : decode cX8_linksCause 4 = .ok (.invokestatic 15, 3) := by decide +kernel
theorem dX8_linksCause_7 : decode cX8_linksCause 7 = .ok (.ifCond .eq 7, 3) := by decide +kernel
theorem dX8_linksCause_10 : decode cX8_linksCause 10 = .ok (.iconst 0, 1) := by decide +kernel
theorem dX8_linksCause_11 : decode cX8_linksCause 11 = .ok (.goto 4, 3) := by decide +kernel
theorem dX8_linksCause_14 : decode cX8_linksCause 14 = .ok (.iconst 2, 1) := by decide +kernel
theorem dX8_linksCause_15 : decode cX8_linksCause 15 = .ok (.ireturn, 1) := by decide +kernel
theorem dX8_linkCount_0 : decode cX8_linkCount 0 = .ok (.iconst 1, 1) := by decide +kernel
theorem dX8_linkCount_1 : decode cX8_linkCount 1 = .ok (.ireturn, 1) := by decide +kernel
theorem dX8_link_0 : decode cX8_link 0 = .ok (.aload_n 0, 1) := by decide +kernel
theorem dX8_link_1 : decode cX8_link 1 = .ok (.aload_n 0, 1) := by decide +kernel
theorem dX8_link_2 : decode cX8_link 2 = .ok (.getfield 9, 3) := by decide +kernel
theorem dX8_link_5 : decode cX8_link 5 = .ok (.invokespecial 19, 3) := by decide +kernel
theorem dX8_link_8 : decode cX8_link 8 = .ok (.areturn, 1) := by decide +kernel
theorem dX9_init_0 : decode cX9_init 0 = .ok (.aload_n 0, 1) := by decide +kernel
theorem dX9_init_1 : decode cX9_init 1 = .ok (.invokespecial 3, 3) := by decide +kernel
theorem dX9_init_4 : decode cX9_init 4 = .ok (.aload_n 0, 1) := by decide +kernel
theorem dX9_init_5 : decode cX9_init 5 = .ok (.bipush 6, 2) := by decide +kernel
theorem dX9_init_7 : decode cX9_init 7 = .ok (.anewarray 9, 3) := by decide +kernel
theorem dX9_init_10 : decode cX9_init 10 = .ok (.putfield 11, 3) := by decide +kernel
theorem dX9_init_13 : decode cX9_init 13 = .ok (.aload_n 0, 1) := by decide +kernel
theorem dX9_init_14 : decode cX9_init 14 = .ok (.aconst_null, 1) := by decide +kernel
theorem dX9_init_15 : decode cX9_init 15 = .ok (.putfield 15, 3) := by decide +kernel
theorem dX9_init_18 : decode cX9_init 18 = .ok (.aload_n 0, 1) := by decide +kernel
theorem dX9_init_19 : decode cX9_init 19 = .ok (.iconst 0, 1) := by decide +kernel
theorem dX9_init_20 : decode cX9_init 20 = .ok (.putfield 19, 3) := by decide +kernel
theorem dX9_init_23 : decode cX9_init 23 = .ok (.aload_n 0, 1) := by decide +kernel
theorem dX9_init_24 : decode cX9_init 24 = .ok (.iconst 0, 1) := by decide +kernel
theorem dX9_init_25 : decode cX9_init 25 = .ok (.putfield 23, 3) := by decide +kernel
theorem dX9_init_28 : decode cX9_init 28 = .ok (.aload_n 0, 1) := by decide +kernel
theorem dX9_init_29 : decode cX9_init 29 = .ok (.iload_n 1, 1) := by decide +kernel
theorem dX9_init_30 : decode cX9_init 30 = .ok (.putfield 27, 3) := by decide +kernel
theorem dX9_init_33 : decode cX9_init 33 = .ok (.aload_n 0, 1) := by decide +kernel
theorem dX9_init_34 : decode cX9_init 34 = .ok (.iload_n 2, 1) := by decide +kernel
theorem dX9_init_35 : decode cX9_init 35 = .ok (.putfield 30, 3) := by decide +kernel
theorem dX9_init_38 : decode cX9_init 38 = .ok (.aload_n 0, 1) := by decide +kernel
theorem dX9_init_39 : decode cX9_init 39 = .ok (.iload_n 3, 1) := by decide +kernel
theorem dX9_init_40 : decode cX9_init 40 = .ok (.putfield 33, 3) := by decide +kernel
theorem dX9_init_43 : decode cX9_init 43 = .ok (.return_, 1) := by decide +kernel
theorem dX9_keyCause_0 : decode cX9_keyCause 0 = .ok (.iconst 0, 1) := by decide +kernel
theorem dX9_keyCause_1 : decode cX9_keyCause 1 = .ok (.ireturn, 1) := by decide +kernel
theorem dX9_toldKey_0 : decode cX9_toldKey 0 = .ok (.aload_n 0, 1) := by decide +kernel
theorem dX9_toldKey_1 : decode cX9_toldKey 1 = .ok (.getfield 30, 3) := by decide +kernel
theorem dX9_toldKey_4 : decode cX9_toldKey 4 = .ok (.ireturn, 1) := by decide +kernel
theorem dX9_valueCause_0 : decode cX9_valueCause 0 = .ok (.iconst 0, 1) := by decide +kernel
theorem dX9_valueCause_1 : decode cX9_valueCause 1 = .ok (.ireturn, 1) := by decide +kernel
theorem dX9_toldValue_0 : decode cX9_toldValue 0 = .ok (.aload_n 0, 1) := by decide +kernel
theorem dX9_toldValue_1 : decode cX9_toldValue 1 = .ok (.getfield 33, 3) := by decide +kernel
theorem dX9_toldValue_4 : decode cX9_toldValue 4 = .ok (.ireturn, 1) := by decide +kernel
theorem dX9_linksCause_0 : decode cX9_linksCause 0 = .ok (.iconst 0, 1) := by decide +kernel
theorem dX9_linksCause_1 : decode cX9_linksCause 1 = .ok (.ireturn, 1) := by decide +kernel
theorem dX10_init_0 : decode cX10_init 0 = .ok (.aload_n 0, 1) := by decide +kernel
theorem dX10_init_1 : decode cX10_init 1 = .ok (.invokespecial 3, 3) := by decide +kernel
theorem dX10_init_4 : decode cX10_init 4 = .ok (.aload_n 0, 1) := by decide +kernel
theorem dX10_init_5 : decode cX10_init 5 = .ok (.bipush 40, 2) := by decide +kernel
theorem dX10_init_7 : decode cX10_init 7 = .ok (.anewarray 9, 3) := by decide +kernel
theorem dX10_init_10 : decode cX10_init 10 = .ok (.putfield 11, 3) := by decide +kernel
theorem dX10_init_13 : decode cX10_init 13 = .ok (.aload_n 0, 1) := by decide +kernel
theorem dX10_init_14 : decode cX10_init 14 = .ok (.iconst 0, 1) := by decide +kernel
theorem dX10_init_15 : decode cX10_init 15 = .ok (.putfield 15, 3) := by decide +kernel
theorem dX10_init_18 : decode cX10_init 18 = .ok (.aload_n 0, 1) := by decide +kernel
theorem dX10_init_19 : decode cX10_init 19 = .ok (.new 19, 3) := by decide +kernel
theorem dX10_init_22 : decode cX10_init 22 = .ok (.dup, 1) := by decide +kernel
theorem dX10_init_23 : decode cX10_init 23 = .ok (.invokespecial 21, 3) := by decide +kernel
theorem dX10_init_26 : decode cX10_init 26 = .ok (.putfield 22, 3) := by decide +kernel
theorem dX10_init_29 : decode cX10_init 29 = .ok (.aload_n 0, 1) := by decide +kernel
theorem dX10_init_30 : decode cX10_init 30 = .ok (.new 19, 3) := by decide +kernel
theorem dX10_init_33 : decode cX10_init 33 = .ok (.dup, 1) := by decide +kernel
theorem dX10_init_34 : decode cX10_init 34 = .ok (.invokespecial 21, 3) := by decide +kernel
theorem dX10_init_37 : decode cX10_init 37 = .ok (.putfield 26, 3) := by decide +kernel
theorem dX10_init_40 : decode cX10_init 40 = .ok (.aload_n 0, 1) := by decide +kernel
theorem dX10_init_41 : decode cX10_init 41 = .ok (.ldc 29, 2) := by decide +kernel
theorem dX10_init_43 : decode cX10_init 43 = .ok (.putfield 30, 3) := by decide +kernel
theorem dX10_init_46 : decode cX10_init 46 = .ok (.aload_n 0, 1) := by decide +kernel
theorem dX10_init_47 : decode cX10_init 47 = .ok (.ldc 29, 2) := by decide +kernel
theorem dX10_init_49 : decode cX10_init 49 = .ok (.putfield 33, 3) := by decide +kernel
theorem dX10_init_52 : decode cX10_init 52 = .ok (.aload_n 0, 1) := by decide +kernel
theorem dX10_init_53 : decode cX10_init 53 = .ok (.iconst 0, 1) := by decide +kernel
theorem dX10_init_54 : decode cX10_init 54 = .ok (.putfield 36, 3) := by decide +kernel
theorem dX10_init_57 : decode cX10_init 57 = .ok (.aload_n 0, 1) := by decide +kernel
theorem dX10_init_58 : decode cX10_init 58 = .ok (.iconst 0, 1) := by decide +kernel
theorem dX10_init_59 : decode cX10_init 59 = .ok (.putfield 39, 3) := by decide +kernel
theorem dX10_init_62 : decode cX10_init 62 = .ok (.return_, 1) := by decide +kernel
theorem dX10_thing_0 : decode cX10_thing 0 = .ok (.iload_n 1, 1) := by decide +kernel
theorem dX10_thing_1 : decode cX10_thing 1 = .ok (.ifCond .lt 9, 3) := by decide +kernel
theorem dX10_thing_4 : decode cX10_thing 4 = .ok (.iload_n 1, 1) := by decide +kernel
theorem dX10_thing_5 : decode cX10_thing 5 = .ok (.bipush 6, 2) := by decide +kernel
theorem dX10_thing_7 : decode cX10_thing 7 = .ok (.if_icmp .le 6, 3) := by decide +kernel
theorem dX10_thing_10 : decode cX10_thing 10 = .ok (.ldc 42, 2) := by decide +kernel
theorem dX10_thing_12 : decode cX10_thing 12 = .ok (.ireturn, 1) := by decide +kernel
theorem dX10_thing_13 : decode cX10_thing 13 = .ok (.aload_n 0, 1) := by decide +kernel
theorem dX10_thing_14 : decode cX10_thing 14 = .ok (.getfield 15, 3) := by decide +kernel
theorem dX10_thing_17 : decode cX10_thing 17 = .ok (.bipush 40, 2) := by decide +kernel
theorem dX10_thing_19 : decode cX10_thing 19 = .ok (.if_icmp .lt 6, 3) := by decide +kernel
theorem dX10_thing_22 : decode cX10_thing 22 = .ok (.ldc 43, 2) := by decide +kernel
theorem dX10_thing_24 : decode cX10_thing 24 = .ok (.ireturn, 1) := by decide +kernel
theorem dX10_thing_25 : decode cX10_thing 25 = .ok (.aload_n 0, 1) := by decide +kernel
theorem dX10_thing_26 : decode cX10_thing 26 = .ok (.getfield 15, 3) := by decide +kernel
theorem dX10_thing_29 : decode cX10_thing 29 = .ok (.istore 4, 2) := by decide +kernel
theorem dX10_thing_31 : decode cX10_thing 31 = .ok (.aload_n 0, 1) := by decide +kernel
theorem dX10_thing_32 : decode cX10_thing 32 = .ok (.getfield 11, 3) := by decide +kernel
theorem dX10_thing_35 : decode cX10_thing 35 = .ok (.iload 4, 2) := by decide +kernel
theorem dX10_thing_37 : decode cX10_thing 37 = .ok (.iload_n 1, 1) := by decide +kernel
theorem dX10_thing_38 : decode cX10_thing 38 = .ok (.iload 4, 2) := by decide +kernel
theorem dX10_thing_40 : decode cX10_thing 40 = .ok (.iload_n 2, 1) := by decide +kernel
theorem dX10_thing_41 : decode cX10_thing 41 = .ok (.iload_n 3, 1) := by decide +kernel
theorem dX10_thing_42 : decode cX10_thing 42 = .ok (.invokestatic 44, 3) := by decide +kernel
theorem dX10_thing_45 : decode cX10_thing 45 = .ok (.aastore, 1) := by decide +kernel
theorem dX10_thing_46 : decode cX10_thing 46 = .ok (.aload_n 0, 1) := by decide +kernel
theorem dX10_thing_47 : decode cX10_thing 47 = .ok (.dup, 1) := by decide +kernel
theorem dX10_thing_48 : decode cX10_thing 48 = .ok (.getfield 15, 3) := by decide +kernel
theorem dX10_thing_51 : decode cX10_thing 51 = .ok (.iconst 1, 1) := by decide +kernel
theorem dX10_thing_52 : decode cX10_thing 52 = .ok (.iadd, 1) := by decide +kernel
theorem dX10_thing_53 : decode cX10_thing 53 = .ok (.putfield 15, 3) := by decide +kernel
theorem dX10_thing_56 : decode cX10_thing 56 = .ok (.iload 4, 2) := by decide +kernel
theorem dX10_thing_58 : decode cX10_thing 58 = .ok (.ireturn, 1) := by decide +kernel
theorem dX10_value_0 : decode cX10_value 0 = .ok (.aload_n 0, 1) := by decide +kernel
theorem dX10_value_1 : decode cX10_value 1 = .ok (.iload_n 1, 1) := by decide +kernel
theorem dX10_value_2 : decode cX10_value 2 = .ok (.invokevirtual 48, 3) := by decide +kernel
theorem dX10_value_5 : decode cX10_value 5 = .ok (.astore_n 3, 1) := by decide +kernel
theorem dX10_value_6 : decode cX10_value 6 = .ok (.aload_n 3, 1) := by decide +kernel
theorem dX10_value_7 : decode cX10_value 7 = .ok (.ifnonnull 6, 3) := by decide +kernel
theorem dX10_value_10 : decode cX10_value 10 = .ok (.ldc 52, 2) := by decide +kernel
theorem dX10_value_12 : decode cX10_value 12 = .ok (.ireturn, 1) := by decide +kernel
theorem dX10_value_13 : decode cX10_value 13 = .ok (.aload_n 3, 1) := by decide +kernel
theorem dX10_value_14 : decode cX10_value 14 = .ok (.getfield 53, 3) := by decide +kernel
theorem dX10_value_17 : decode cX10_value 17 = .ok (.istore 4, 2) := by decide +kernel
theorem dX10_value_19 : decode cX10_value 19 = .ok (.aload_n 3, 1) := by decide +kernel
theorem dX10_value_20 : decode cX10_value 20 = .ok (.iload_n 2, 1) := by decide +kernel
theorem dX10_value_21 : decode cX10_value 21 = .ok (.putfield 53, 3) := by decide +kernel
theorem dX10_value_24 : decode cX10_value 24 = .ok (.iload 4, 2) := by decide +kernel
theorem dX10_value_26 : decode cX10_value 26 = .ok (.ireturn, 1) := by decide +kernel
theorem dX10_key_0 : decode cX10_key 0 = .ok (.aload_n 0, 1) := by decide +kernel
theorem dX10_key_1 : decode cX10_key 1 = .ok (.iload_n 1, 1) := by decide +kernel
theorem dX10_key_2 : decode cX10_key 2 = .ok (.invokevirtual 48, 3) := by decide +kernel
theorem dX10_key_5 : decode cX10_key 5 = .ok (.astore_n 3, 1) := by decide +kernel
theorem dX10_key_6 : decode cX10_key 6 = .ok (.aload_n 3, 1) := by decide +kernel
theorem dX10_key_7 : decode cX10_key 7 = .ok (.ifnonnull 6, 3) := by decide +kernel
theorem dX10_key_10 : decode cX10_key 10 = .ok (.ldc 52, 2) := by decide +kernel
theorem dX10_key_12 : decode cX10_key 12 = .ok (.ireturn, 1) := by decide +kernel
theorem dX10_key_13 : decode cX10_key 13 = .ok (.aload_n 3, 1) := by decide +kernel
theorem dX10_key_14 : decode cX10_key 14 = .ok (.getfield 56, 3) := by decide +kernel
theorem dX10_key_17 : decode cX10_key 17 = .ok (.istore 4, 2) := by decide +kernel
theorem dX10_key_19 : decode cX10_key 19 = .ok (.aload_n 3, 1) := by decide +kernel
theorem dX10_key_20 : decode cX10_key 20 = .ok (.iload_n 2, 1) := by decide +kernel
theorem dX10_key_21 : decode cX10_key 21 = .ok (.putfield 56, 3) := by decide +kernel
theorem dX10_key_24 : decode cX10_key 24 = .ok (.iload 4, 2) := by decide +kernel
theorem dX10_key_26 : decode cX10_key 26 = .ok (.ireturn, 1) := by decide +kernel
theorem dX10_next_0 : decode cX10_next 0 = .ok (.aload_n 0, 1) := by decide +kernel
theorem dX10_next_1 : decode cX10_next 1 = .ok (.iload_n 1, 1) := by decide +kernel
theorem dX10_next_2 : decode cX10_next 2 = .ok (.invokevirtual 48, 3) := by decide +kernel
theorem dX10_next_5 : decode cX10_next 5 = .ok (.astore_n 3, 1) := by decide +kernel
theorem dX10_next_6 : decode cX10_next 6 = .ok (.aload_n 3, 1) := by decide +kernel
theorem dX10_next_7 : decode cX10_next 7 = .ok (.ifnull 11, 3) := by decide +kernel
theorem dX10_next_10 : decode cX10_next 10 = .ok (.aload_n 0, 1) := by decide +kernel
theorem dX10_next_11 : decode cX10_next 11 = .ok (.iload_n 2, 1) := by decide +kernel
theorem dX10_next_12 : decode cX10_next 12 = .ok (.invokevirtual 59, 3) := by decide +kernel
theorem dX10_next_15 : decode cX10_next 15 = .ok (.ifCond .ne 6, 3) := by decide +kernel
theorem dX10_next_18 : decode cX10_next 18 = .ok (.ldc 52, 2) := by decide +kernel
theorem dX10_next_20 : decode cX10_next 20 = .ok (.ireturn, 1) := by decide +kernel
theorem dX10_next_21 : decode cX10_next 21 = .ok (.aload_n 3, 1) := by decide +kernel
theorem dX10_next_22 : decode cX10_next 22 = .ok (.aload_n 0, 1) := by decide +kernel
theorem dX10_next_23 : decode cX10_next 23 = .ok (.iload_n 2, 1) := by decide +kernel
theorem dX10_next_24 : decode cX10_next 24 = .ok (.invokevirtual 48, 3) := by decide +kernel
theorem dX10_next_27 : decode cX10_next 27 = .ok (.putfield 63, 3) := by decide +kernel
theorem dX10_next_30 : decode cX10_next 30 = .ok (.iconst 1, 1) := by decide +kernel
theorem dX10_next_31 : decode cX10_next 31 = .ok (.ireturn, 1) := by decide +kernel
theorem dX10_place_0 : decode cX10_place 0 = .ok (.aload_n 0, 1) := by decide +kernel
theorem dX10_place_1 : decode cX10_place 1 = .ok (.iload_n 1, 1) := by decide +kernel
theorem dX10_place_2 : decode cX10_place 2 = .ok (.invokevirtual 48, 3) := by decide +kernel
theorem dX10_place_5 : decode cX10_place 5 = .ok (.astore 4, 2) := by decide +kernel
theorem dX10_place_7 : decode cX10_place 7 = .ok (.aload 4, 2) := by decide +kernel
theorem dX10_place_9 : decode cX10_place 9 = .ok (.ifnull 11, 3) := by decide +kernel
theorem dX10_place_12 : decode cX10_place 12 = .ok (.aload_n 0, 1) := by decide +kernel
theorem dX10_place_13 : decode cX10_place 13 = .ok (.iload_n 3, 1) := by decide +kernel
theorem dX10_place_14 : decode cX10_place 14 = .ok (.invokevirtual 59, 3) := by decide +kernel
theorem dX10_place_17 : decode cX10_place 17 = .ok (.ifCond .ne 6, 3) := by decide +kernel
theorem dX10_place_20 : decode cX10_place 20 = .ok (.ldc 52, 2) := by decide +kernel
theorem dX10_place_22 : decode cX10_place 22 = .ok (.ireturn, 1) := by decide +kernel
theorem dX10_place_23 : decode cX10_place 23 = .ok (.iload_n 2, 1) := by decide +kernel
theorem dX10_place_24 : decode cX10_place 24 = .ok (.invokestatic 67, 3) := by decide +kernel
theorem dX10_place_27 : decode cX10_place 27 = .ok (.ifCond .ne 6, 3) := by decide +kernel
theorem dX10_place_30 : decode cX10_place 30 = .ok (.ldc 42, 2) := by decide +kernel
theorem dX10_place_32 : decode cX10_place 32 = .ok (.ireturn, 1) := by decide +kernel
theorem dX10_place_33 : decode cX10_place 33 = .ok (.aload 4, 2) := by decide +kernel
theorem dX10_place_35 : decode cX10_place 35 = .ok (.getfield 70, 3) := by decide +kernel
theorem dX10_place_38 : decode cX10_place 38 = .ok (.iload_n 2, 1) := by decide +kernel
theorem dX10_place_39 : decode cX10_place 39 = .ok (.aload_n 0, 1) := by decide +kernel
theorem dX10_place_40 : decode cX10_place 40 = .ok (.iload_n 3, 1) := by decide +kernel
theorem dX10_place_41 : decode cX10_place 41 = .ok (.invokevirtual 48, 3) := by decide +kernel
theorem dX10_place_44 : decode cX10_place 44 = .ok (.aastore, 1) := by decide +kernel
theorem dX10_place_45 : decode cX10_place 45 = .ok (.iconst 1, 1) := by decide +kernel
theorem dX10_place_46 : decode cX10_place 46 = .ok (.ireturn, 1) := by decide +kernel
theorem dX10_hold_0 : decode cX10_hold 0 = .ok (.aload_n 0, 1) := by decide +kernel
theorem dX10_hold_1 : decode cX10_hold 1 = .ok (.iload_n 1, 1) := by decide +kernel
theorem dX10_hold_2 : decode cX10_hold 2 = .ok (.invokevirtual 48, 3) := by decide +kernel
theorem dX10_hold_5 : decode cX10_hold 5 = .ok (.astore_n 3, 1) := by decide +kernel
theorem dX10_hold_6 : decode cX10_hold 6 = .ok (.aload_n 3, 1) := by decide +kernel
theorem dX10_hold_7 : decode cX10_hold 7 = .ok (.ifnonnull 6, 3) := by decide +kernel
theorem dX10_hold_10 : decode cX10_hold 10 = .ok (.ldc 52, 2) := by decide +kernel
theorem dX10_hold_12 : decode cX10_hold 12 = .ok (.ireturn, 1) := by decide +kernel
theorem dX10_hold_13 : decode cX10_hold 13 = .ok (.aload_n 3, 1) := by decide +kernel
theorem dX10_hold_14 : decode cX10_hold 14 = .ok (.getfield 73, 3) := by decide +kernel
theorem dX10_hold_17 : decode cX10_hold 17 = .ok (.istore 4, 2) := by decide +kernel
theorem dX10_hold_19 : decode cX10_hold 19 = .ok (.aload_n 3, 1) := by decide +kernel
theorem dX10_hold_20 : decode cX10_hold 20 = .ok (.iload_n 2, 1) := by decide +kernel
theorem dX10_hold_21 : decode cX10_hold 21 = .ok (.putfield 73, 3) := by decide +kernel
theorem dX10_hold_24 : decode cX10_hold 24 = .ok (.iload 4, 2) := by decide +kernel
theorem dX10_hold_26 : decode cX10_hold 26 = .ok (.invokestatic 77, 3) := by decide +kernel
theorem dX10_hold_29 : decode cX10_hold 29 = .ok (.ireturn, 1) := by decide +kernel
theorem dX10_copy_0 : decode cX10_copy 0 = .ok (.aload_n 0, 1) := by decide +kernel
theorem dX10_copy_1 : decode cX10_copy 1 = .ok (.iload_n 1, 1) := by decide +kernel
theorem dX10_copy_2 : decode cX10_copy 2 = .ok (.invokevirtual 48, 3) := by decide +kernel
theorem dX10_copy_5 : decode cX10_copy 5 = .ok (.astore 6, 2) := by decide +kernel
theorem dX10_copy_7 : decode cX10_copy 7 = .ok (.aload_n 0, 1) := by decide +kernel
theorem dX10_copy_8 : decode cX10_copy 8 = .ok (.iload_n 3, 1) := by decide +kernel
theorem dX10_copy_9 : decode cX10_copy 9 = .ok (.invokevirtual 48, 3) := by decide +kernel
theorem dX10_copy_12 : decode cX10_copy 12 = .ok (.astore 7, 2) := by decide +kernel
theorem dX10_copy_14 : decode cX10_copy 14 = .ok (.aload 6, 2) := by decide +kernel
theorem dX10_copy_16 : decode cX10_copy 16 = .ok (.ifnull 8, 3) := by decide +kernel
theorem dX10_copy_19 : decode cX10_copy 19 = .ok (.aload 7, 2) := by decide +kernel
theorem dX10_copy_21 : decode cX10_copy 21 = .ok (.ifnonnull 6, 3) := by decide +kernel
theorem dX10_copy_24 : decode cX10_copy 24 = .ok (.ldc 52, 2) := by decide +kernel
theorem dX10_copy_26 : decode cX10_copy 26 = .ok (.ireturn, 1) := by decide +kernel
theorem dX10_copy_27 : decode cX10_copy 27 = .ok (.iload_n 2, 1) := by decide +kernel
theorem dX10_copy_28 : decode cX10_copy 28 = .ok (.iload 5, 2) := by decide +kernel
theorem dX10_copy_30 : decode cX10_copy 30 = .ok (.invokestatic 81, 3) := by decide +kernel
theorem dX10_copy_33 : decode cX10_copy 33 = .ok (.ifCond .eq 13, 3) := by decide +kernel
theorem dX10_copy_36 : decode cX10_copy 36 = .ok (.iload 4, 2) := by decide +kernel
theorem dX10_copy_38 : decode cX10_copy 38 = .ok (.iload 5, 2) := by decide +kernel
theorem dX10_copy_40 : decode cX10_copy 40 = .ok (.invokestatic 81, 3) := by decide +kernel
theorem dX10_copy_43 : decode cX10_copy 43 = .ok (.ifCond .ne 6, 3) := by decide +kernel
theorem dX10_copy_46 : decode cX10_copy 46 = .ok (.ldc 85, 2) := by decide +kernel
theorem dX10_copy_48 : decode cX10_copy 48 = .ok (.ireturn, 1) := by decide +kernel
theorem dX10_copy_49 : decode cX10_copy 49 = .ok (.aload 7, 2) := by decide +kernel
theorem dX10_copy_51 : decode cX10_copy 51 = .ok (.instanceof 86, 3) := by decide +kernel
theorem dX10_copy_54 : decode cX10_copy 54 = .ok (.ifCond .eq 17, 3) := by decide +kernel
theorem dX10_copy_57 : decode cX10_copy 57 = .ok (.aload 6, 2) := by decide +kernel
theorem dX10_copy_59 : decode cX10_copy 59 = .ok (.getfield 70, 3) := by decide +kernel
theorem dX10_copy_62 : decode cX10_copy 62 = .ok (.iload_n 2, 1) := by decide +kernel
theorem dX10_copy_63 : decode cX10_copy 63 = .ok (.iload 5, 2) := by decide +kernel
theorem dX10_copy_65 : decode cX10_copy 65 = .ok (.invokestatic 88, 3) := by decide +kernel
theorem dX10_copy_68 : decode cX10_copy 68 = .ok (.goto 5, 3) := by decide +kernel
theorem dX10_copy_71 : decode cX10_copy 71 = .ok (.iload 5, 2) := by decide +kernel
theorem dX10_copy_73 : decode cX10_copy 73 = .ok (.istore 8, 2) := by decide +kernel
theorem dX10_copy_75 : decode cX10_copy 75 = .ok (.aload 6, 2) := by decide +kernel
theorem dX10_copy_77 : decode cX10_copy 77 = .ok (.getfield 70, 3) := by decide +kernel
theorem dX10_copy_80 : decode cX10_copy 80 = .ok (.iload_n 2, 1) := by decide +kernel
theorem dX10_copy_81 : decode cX10_copy 81 = .ok (.aload 7, 2) := by decide +kernel
theorem dX10_copy_83 : decode cX10_copy 83 = .ok (.getfield 70, 3) := by decide +kernel
theorem dX10_copy_86 : decode cX10_copy 86 = .ok (.iload 4, 2) := by decide +kernel
theorem dX10_copy_88 : decode cX10_copy 88 = .ok (.iload 8, 2) := by decide +kernel
theorem dX10_copy_90 : decode cX10_copy 90 = .ok (.invokestatic 92, 3) := by decide +kernel
theorem dX10_copy_93 : decode cX10_copy 93 = .ok (.iload 8, 2) := by decide +kernel
theorem dX10_copy_95 : decode cX10_copy 95 = .ok (.iload 5, 2) := by decide +kernel
theorem dX10_copy_97 : decode cX10_copy 97 = .ok (.if_icmp .ge 8, 3) := by decide +kernel
theorem dX10_copy_100 : decode cX10_copy 100 = .ok (.ldc 96, 2) := by decide +kernel
theorem dX10_copy_102 : decode cX10_copy 102 = .ok (.goto 4, 3) := by decide +kernel
theorem dX10_copy_105 : decode cX10_copy 105 = .ok (.iconst 1, 1) := by decide +kernel
theorem dX10_copy_106 : decode cX10_copy 106 = .ok (.ireturn, 1) := by decide +kernel
theorem dX10_load_0 : decode cX10_load 0 = .ok (.aload_n 0, 1) := by decide +kernel
theorem dX10_load_1 : decode cX10_load 1 = .ok (.iload_n 1, 1) := by decide +kernel
theorem dX10_load_2 : decode cX10_load 2 = .ok (.invokevirtual 48, 3) := by decide +kernel
theorem dX10_load_5 : decode cX10_load 5 = .ok (.astore_n 3, 1) := by decide +kernel
theorem dX10_load_6 : decode cX10_load 6 = .ok (.aload_n 3, 1) := by decide +kernel
theorem dX10_load_7 : decode cX10_load 7 = .ok (.ifnonnull 6, 3) := by decide +kernel
theorem dX10_load_10 : decode cX10_load 10 = .ok (.ldc 52, 2) := by decide +kernel
theorem dX10_load_12 : decode cX10_load 12 = .ok (.ireturn, 1) := by decide +kernel
theorem dX10_load_13 : decode cX10_load 13 = .ok (.aload_n 3, 1) := by decide +kernel
theorem dX10_load_14 : decode cX10_load 14 = .ok (.instanceof 97, 3) := by decide +kernel
theorem dX10_load_17 : decode cX10_load 17 = .ok (.ifCond .eq 12, 3) := by decide +kernel
theorem dX10_load_20 : decode cX10_load 20 = .ok (.aload_n 3, 1) := by decide +kernel
theorem dX10_load_21 : decode cX10_load 21 = .ok (.checkcast 97, 3) := by decide +kernel
theorem dX10_load_24 : decode cX10_load 24 = .ok (.astore 4, 2) := by decide +kernel
theorem dX10_load_26 : decode cX10_load 26 = .ok (.goto 6, 3) := by decide +kernel
theorem dX10_load_29 : decode cX10_load 29 = .ok (.ldc 99, 2) := by decide +kernel
theorem dX10_load_31 : decode cX10_load 31 = .ok (.ireturn, 1) := by decide +kernel
theorem dX10_load_32 : decode cX10_load 32 = .ok (.aload_n 0, 1) := by decide +kernel
theorem dX10_load_33 : decode cX10_load 33 = .ok (.ldc 29, 2) := by decide +kernel
theorem dX10_load_35 : decode cX10_load 35 = .ok (.ldc 29, 2) := by decide +kernel
theorem dX10_load_37 : decode cX10_load 37 = .ok (.iconst 0, 1) := by decide +kernel
theorem dX10_load_38 : decode cX10_load 38 = .ok (.invokevirtual 100, 3) := by decide +kernel
theorem dX10_load_41 : decode cX10_load 41 = .ok (.aload_n 0, 1) := by decide +kernel
theorem dX10_load_42 : decode cX10_load 42 = .ok (.aload 4, 2) := by decide +kernel
theorem dX10_load_44 : decode cX10_load 44 = .ok (.iload_n 2, 1) := by decide +kernel
theorem dX10_load_45 : decode cX10_load 45 = .ok (.invokevirtual 104, 3) := by decide +kernel
theorem dX10_load_48 : decode cX10_load 48 = .ok (.ifCond .ne 21, 3) := by decide +kernel
theorem dX10_load_51 : decode cX10_load 51 = .ok (.aload_n 0, 1) := by decide +kernel
theorem dX10_load_52 : decode cX10_load 52 = .ok (.dup, 1) := by decide +kernel
theorem dX10_load_53 : decode cX10_load 53 = .ok (.getfield 39, 3) := by decide +kernel
theorem dX10_load_56 : decode cX10_load 56 = .ok (.iconst 1, 1) := by decide +kernel
theorem dX10_load_57 : decode cX10_load 57 = .ok (.iadd, 1) := by decide +kernel
theorem dX10_load_58 : decode cX10_load 58 = .ok (.putfield 39, 3) := by decide +kernel
theorem dX10_load_61 : decode cX10_load 61 = .ok (.ldc 108, 2) := by decide +kernel
theorem dX10_load_63 : decode cX10_load 63 = .ok (.aload_n 0, 1) := by decide +kernel
theorem dX10_load_64 : decode cX10_load 64 = .ok (.getfield 36, 3) := by decide +kernel
theorem dX10_load_67 : decode cX10_load 67 = .ok (.isub, 1) := by decide +kernel
theorem dX10_load_68 : decode cX10_load 68 = .ok (.ireturn, 1) := by decide +kernel
theorem dX10_load_69 : decode cX10_load 69 = .ok (.aload_n 0, 1) := by decide +kernel
theorem dX10_load_70 : decode cX10_load 70 = .ok (.getfield 22, 3) := by decide +kernel
theorem dX10_load_73 : decode cX10_load 73 = .ok (.astore 5, 2) := by decide +kernel
theorem dX10_load_75 : decode cX10_load 75 = .ok (.aload_n 0, 1) := by decide +kernel
theorem dX10_load_76 : decode cX10_load 76 = .ok (.aload_n 0, 1) := by decide +kernel
theorem dX10_load_77 : decode cX10_load 77 = .ok (.getfield 26, 3) := by decide +kernel
theorem dX10_load_80 : decode cX10_load 80 = .ok (.putfield 22, 3) := by decide +kernel
theorem dX10_load_83 : decode cX10_load 83 = .ok (.aload_n 0, 1) := by decide +kernel
theorem dX10_load_84 : decode cX10_load 84 = .ok (.aload 5, 2) := by decide +kernel
theorem dX10_load_86 : decode cX10_load 86 = .ok (.putfield 26, 3) := by decide +kernel
theorem dX10_load_89 : decode cX10_load 89 = .ok (.aload_n 0, 1) := by decide +kernel
theorem dX10_load_90 : decode cX10_load 90 = .ok (.getfield 22, 3) := by decide +kernel
theorem dX10_load_93 : decode cX10_load 93 = .ok (.getfield 109, 3) := by decide +kernel
theorem dX10_load_96 : decode cX10_load 96 = .ok (.ireturn, 1) := by decide +kernel
theorem dX10_refused_0 : decode cX10_refused 0 = .ok (.iload_n 1, 1) := by decide +kernel
theorem dX10_refused_1 : decode cX10_refused 1 = .ok (.ifCond .lt 8, 3) := by decide +kernel
theorem dX10_refused_4 : decode cX10_refused 4 = .ok (.iload_n 1, 1) := by decide +kernel
theorem dX10_refused_5 : decode cX10_refused 5 = .ok (.iconst 2, 1) := by decide +kernel
theorem dX10_refused_6 : decode cX10_refused 6 = .ok (.if_icmp .le 6, 3) := by decide +kernel
theorem dX10_refused_9 : decode cX10_refused 9 = .ok (.ldc 42, 2) := by decide +kernel
theorem dX10_refused_11 : decode cX10_refused 11 = .ok (.ireturn, 1) := by decide +kernel
theorem dX10_refused_12 : decode cX10_refused 12 = .ok (.aload_n 0, 1) := by decide +kernel
theorem dX10_refused_13 : decode cX10_refused 13 = .ok (.getfield 36, 3) := by decide +kernel
theorem dX10_refused_16 : decode cX10_refused 16 = .ok (.ifCond .ne 6, 3) := by decide +kernel
theorem dX10_refused_19 : decode cX10_refused 19 = .ok (.ldc 29, 2) := by decide +kernel
theorem dX10_refused_21 : decode cX10_refused 21 = .ok (.ireturn, 1) := by decide +kernel
theorem dX10_refused_22 : decode cX10_refused 22 = .ok (.iload_n 1, 1) := by decide +kernel
theorem dX10_refused_23 : decode cX10_refused 23 = .ok (.lookupswitch 35 #[(0, 25), (1, 30)], 25) := by decide +kernel
theorem dX10_refused_48 : decode cX10_refused 48 = .ok (.aload_n 0, 1) := by decide +kernel
theorem dX10_refused_49 : decode cX10_refused 49 = .ok (.getfield 30, 3) := by decide +kernel
theorem dX10_refused_52 : decode cX10_refused 52 = .ok (.ireturn, 1) := by decide +kernel
theorem dX10_refused_53 : decode cX10_refused 53 = .ok (.aload_n 0, 1) := by decide +kernel
theorem dX10_refused_54 : decode cX10_refused 54 = .ok (.getfield 33, 3) := by decide +kernel
theorem dX10_refused_57 : decode cX10_refused 57 = .ok (.ireturn, 1) := by decide +kernel
theorem dX10_refused_58 : decode cX10_refused 58 = .ok (.aload_n 0, 1) := by decide +kernel
theorem dX10_refused_59 : decode cX10_refused 59 = .ok (.getfield 36, 3) := by decide +kernel
theorem dX10_refused_62 : decode cX10_refused 62 = .ok (.ireturn, 1) := by decide +kernel
theorem dX10_node_0 : decode cX10_node 0 = .ok (.aload_n 0, 1) := by decide +kernel
theorem dX10_node_1 : decode cX10_node 1 = .ok (.iload_n 1, 1) := by decide +kernel
theorem dX10_node_2 : decode cX10_node 2 = .ok (.invokevirtual 112, 3) := by decide +kernel
theorem dX10_node_5 : decode cX10_node 5 = .ok (.ifCond .eq 15, 3) := by decide +kernel
theorem dX10_node_8 : decode cX10_node 8 = .ok (.aload_n 0, 1) := by decide +kernel
theorem dX10_node_9 : decode cX10_node 9 = .ok (.getfield 22, 3) := by decide +kernel
theorem dX10_node_12 : decode cX10_node 12 = .ok (.getfield 115, 3) := by decide +kernel
theorem dX10_node_15 : decode cX10_node 15 = .ok (.iload_n 1, 1) := by decide +kernel
theorem dX10_node_16 : decode cX10_node 16 = .ok (.iaload, 1) := by decide +kernel
theorem dX10_node_17 : decode cX10_node 17 = .ok (.goto 5, 3) := by decide +kernel
theorem dX10_node_20 : decode cX10_node 20 = .ok (.ldc 52, 2) := by decide +kernel
theorem dX10_node_22 : decode cX10_node 22 = .ok (.ireturn, 1) := by decide +kernel
theorem dX10_of_0 : decode cX10_of 0 = .ok (.aload_n 0, 1) := by decide +kernel
theorem dX10_of_1 : decode cX10_of 1 = .ok (.getfield 22, 3) := by decide +kernel
theorem dX10_of_4 : decode cX10_of 4 = .ok (.iload_n 1, 1) := by decide +kernel
theorem dX10_of_5 : decode cX10_of 5 = .ok (.invokevirtual 119, 3) := by decide +kernel
theorem dX10_of_8 : decode cX10_of 8 = .ok (.ifCond .eq 18, 3) := by decide +kernel
theorem dX10_of_11 : decode cX10_of 11 = .ok (.aload_n 0, 1) := by decide +kernel
theorem dX10_of_12 : decode cX10_of 12 = .ok (.getfield 22, 3) := by decide +kernel
theorem dX10_of_15 : decode cX10_of 15 = .ok (.getfield 122, 3) := by decide +kernel
theorem dX10_of_18 : decode cX10_of 18 = .ok (.iload_n 1, 1) := by decide +kernel
theorem dX10_of_19 : decode cX10_of 19 = .ok (.aaload, 1) := by decide +kernel
theorem dX10_of_20 : decode cX10_of 20 = .ok (.getfield 126, 3) := by decide +kernel
theorem dX10_of_23 : decode cX10_of 23 = .ok (.goto 5, 3) := by decide +kernel
theorem dX10_of_26 : decode cX10_of 26 = .ok (.ldc 52, 2) := by decide +kernel
theorem dX10_of_28 : decode cX10_of 28 = .ok (.ireturn, 1) := by decide +kernel
theorem dX10_column_0 : decode cX10_column 0 = .ok (.aload_n 0, 1) := by decide +kernel
theorem dX10_column_1 : decode cX10_column 1 = .ok (.getfield 22, 3) := by decide +kernel
theorem dX10_column_4 : decode cX10_column 4 = .ok (.iload_n 1, 1) := by decide +kernel
theorem dX10_column_5 : decode cX10_column 5 = .ok (.invokevirtual 119, 3) := by decide +kernel
theorem dX10_column_8 : decode cX10_column 8 = .ok (.ifCond .eq 15, 3) := by decide +kernel
theorem dX10_column_11 : decode cX10_column 11 = .ok (.aload_n 0, 1) := by decide +kernel
theorem dX10_column_12 : decode cX10_column 12 = .ok (.getfield 22, 3) := by decide +kernel
theorem dX10_column_15 : decode cX10_column 15 = .ok (.getfield 129, 3) := by decide +kernel
theorem dX10_column_18 : decode cX10_column 18 = .ok (.iload_n 1, 1) := by decide +kernel
theorem dX10_column_19 : decode cX10_column 19 = .ok (.iaload, 1) := by decide +kernel
theorem dX10_column_20 : decode cX10_column 20 = .ok (.goto 5, 3) := by decide +kernel
theorem dX10_column_23 : decode cX10_column 23 = .ok (.ldc 52, 2) := by decide +kernel
theorem dX10_column_25 : decode cX10_column 25 = .ok (.ireturn, 1) := by decide +kernel
theorem dX10_arcs_0 : decode cX10_arcs 0 = .ok (.aload_n 0, 1) := by decide +kernel
theorem dX10_arcs_1 : decode cX10_arcs 1 = .ok (.getfield 22, 3) := by decide +kernel
theorem dX10_arcs_4 : decode cX10_arcs 4 = .ok (.iload_n 1, 1) := by decide +kernel
theorem dX10_arcs_5 : decode cX10_arcs 5 = .ok (.invokevirtual 119, 3) := by decide +kernel
theorem dX10_arcs_8 : decode cX10_arcs 8 = .ok (.ifCond .eq 14, 3) := by decide +kernel
theorem dX10_arcs_11 : decode cX10_arcs 11 = .ok (.aload_n 0, 1) := by decide +kernel
theorem dX10_arcs_12 : decode cX10_arcs 12 = .ok (.getfield 22, 3) := by decide +kernel
theorem dX10_arcs_15 : decode cX10_arcs 15 = .ok (.iload_n 1, 1) := by decide +kernel
theorem dX10_arcs_16 : decode cX10_arcs 16 = .ok (.invokevirtual 132, 3) := by decide +kernel
theorem dX10_arcs_19 : decode cX10_arcs 19 = .ok (.goto 5, 3) := by decide +kernel
theorem dX10_arcs_22 : decode cX10_arcs 22 = .ok (.ldc 52, 2) := by decide +kernel
theorem dX10_arcs_24 : decode cX10_arcs 24 = .ok (.ireturn, 1) := by decide +kernel
theorem dX10_arc_0 : decode cX10_arc 0 = .ok (.aload_n 0, 1) := by decide +kernel
theorem dX10_arc_1 : decode cX10_arc 1 = .ok (.getfield 22, 3) := by decide +kernel
theorem dX10_arc_4 : decode cX10_arc 4 = .ok (.iload_n 1, 1) := by decide +kernel
theorem dX10_arc_5 : decode cX10_arc 5 = .ok (.invokevirtual 119, 3) := by decide +kernel
theorem dX10_arc_8 : decode cX10_arc 8 = .ok (.ifCond .eq 19, 3) := by decide +kernel
theorem dX10_arc_11 : decode cX10_arc 11 = .ok (.iload_n 2, 1) := by decide +kernel
theorem dX10_arc_12 : decode cX10_arc 12 = .ok (.ifCond .lt 15, 3) := by decide +kernel
theorem dX10_arc_15 : decode cX10_arc 15 = .ok (.iload_n 2, 1) := by decide +kernel
theorem dX10_arc_16 : decode cX10_arc 16 = .ok (.aload_n 0, 1) := by decide +kernel
theorem dX10_arc_17 : decode cX10_arc 17 = .ok (.getfield 22, 3) := by decide +kernel
theorem dX10_arc_20 : decode cX10_arc 20 = .ok (.iload_n 1, 1) := by decide +kernel
theorem dX10_arc_21 : decode cX10_arc 21 = .ok (.invokevirtual 132, 3) := by decide +kernel
theorem dX10_arc_24 : decode cX10_arc 24 = .ok (.if_icmp .lt 6, 3) := by decide +kernel
theorem dX10_arc_27 : decode cX10_arc 27 = .ok (.ldc 52, 2) := by decide +kernel
theorem dX10_arc_29 : decode cX10_arc 29 = .ok (.ireturn, 1) := by decide +kernel
theorem dX10_arc_30 : decode cX10_arc 30 = .ok (.aload_n 0, 1) := by decide +kernel
theorem dX10_arc_31 : decode cX10_arc 31 = .ok (.getfield 22, 3) := by decide +kernel
theorem dX10_arc_34 : decode cX10_arc 34 = .ok (.getfield 136, 3) := by decide +kernel
theorem dX10_arc_37 : decode cX10_arc 37 = .ok (.iload_n 1, 1) := by decide +kernel
theorem dX10_arc_38 : decode cX10_arc 38 = .ok (.iaload, 1) := by decide +kernel
theorem dX10_arc_39 : decode cX10_arc 39 = .ok (.iload_n 2, 1) := by decide +kernel
theorem dX10_arc_40 : decode cX10_arc 40 = .ok (.iadd, 1) := by decide +kernel
theorem dX10_arc_41 : decode cX10_arc 41 = .ok (.istore 4, 2) := by decide +kernel
theorem dX10_arc_43 : decode cX10_arc 43 = .ok (.iload_n 3, 1) := by decide +kernel
theorem dX10_arc_44 : decode cX10_arc 44 = .ok (.tableswitch 64 0 2 #[28, 39, 50], 28) := by decide +kernel
theorem dX10_arc_72 : decode cX10_arc 72 = .ok (.aload_n 0, 1) := by decide +kernel
theorem dX10_arc_73 : decode cX10_arc 73 = .ok (.getfield 22, 3) := by decide +kernel
theorem dX10_arc_76 : decode cX10_arc 76 = .ok (.getfield 139, 3) := by decide +kernel
theorem dX10_arc_79 : decode cX10_arc 79 = .ok (.iload 4, 2) := by decide +kernel
theorem dX10_arc_81 : decode cX10_arc 81 = .ok (.iaload, 1) := by decide +kernel
theorem dX10_arc_82 : decode cX10_arc 82 = .ok (.ireturn, 1) := by decide +kernel
theorem dX10_arc_83 : decode cX10_arc 83 = .ok (.aload_n 0, 1) := by decide +kernel
theorem dX10_arc_84 : decode cX10_arc 84 = .ok (.getfield 22, 3) := by decide +kernel
theorem dX10_arc_87 : decode cX10_arc 87 = .ok (.getfield 142, 3) := by decide +kernel
theorem dX10_arc_90 : decode cX10_arc 90 = .ok (.iload 4, 2) := by decide +kernel
theorem dX10_arc_92 : decode cX10_arc 92 = .ok (.iaload, 1) := by decide +kernel
theorem dX10_arc_93 : decode cX10_arc 93 = .ok (.ireturn, 1) := by decide +kernel
theorem dX10_arc_94 : decode cX10_arc 94 = .ok (.aload_n 0, 1) := by decide +kernel
theorem dX10_arc_95 : decode cX10_arc 95 = .ok (.getfield 22, 3) := by decide +kernel
theorem dX10_arc_98 : decode cX10_arc 98 = .ok (.getfield 145, 3) := by decide +kernel
theorem dX10_arc_101 : decode cX10_arc 101 = .ok (.iload 4, 2) := by decide +kernel
theorem dX10_arc_103 : decode cX10_arc 103 = .ok (.baload, 1) := by decide +kernel
theorem dX10_arc_104 : decode cX10_arc 104 = .ok (.invokestatic 77, 3) := by decide +kernel
theorem dX10_arc_107 : decode cX10_arc 107 = .ok (.ireturn, 1) := by decide +kernel
theorem dX10_arc_108 : decode cX10_arc 108 = .ok (.ldc 42, 2) := by decide +kernel
theorem dX10_arc_110 : decode cX10_arc 110 = .ok (.ireturn, 1) := by decide +kernel
theorem dX10_way_0 : decode cX10_way 0 = .ok (.aload_n 0, 1) := by decide +kernel
theorem dX10_way_1 : decode cX10_way 1 = .ok (.getfield 22, 3) := by decide +kernel
theorem dX10_way_4 : decode cX10_way 4 = .ok (.iload_n 1, 1) := by decide +kernel
theorem dX10_way_5 : decode cX10_way 5 = .ok (.invokevirtual 119, 3) := by decide +kernel
theorem dX10_way_8 : decode cX10_way 8 = .ok (.ifCond .eq 14, 3) := by decide +kernel
theorem dX10_way_11 : decode cX10_way 11 = .ok (.aload_n 0, 1) := by decide +kernel
theorem dX10_way_12 : decode cX10_way 12 = .ok (.getfield 22, 3) := by decide +kernel
theorem dX10_way_15 : decode cX10_way 15 = .ok (.iload_n 2, 1) := by decide +kernel
theorem dX10_way_16 : decode cX10_way 16 = .ok (.invokevirtual 119, 3) := by decide +kernel
theorem dX10_way_19 : decode cX10_way 19 = .ok (.ifCond .ne 6, 3) := by decide +kernel
theorem dX10_way_22 : decode cX10_way 22 = .ok (.ldc 52, 2) := by decide +kernel
theorem dX10_way_24 : decode cX10_way 24 = .ok (.ireturn, 1) := by decide +kernel
theorem dX10_way_25 : decode cX10_way 25 = .ok (.aload_n 0, 1) := by decide +kernel
theorem dX10_way_26 : decode cX10_way 26 = .ok (.getfield 22, 3) := by decide +kernel
theorem dX10_way_29 : decode cX10_way 29 = .ok (.iload_n 1, 1) := by decide +kernel
theorem dX10_way_30 : decode cX10_way 30 = .ok (.iload_n 2, 1) := by decide +kernel
theorem dX10_way_31 : decode cX10_way 31 = .ok (.invokevirtual 149, 3) := by decide +kernel
theorem dX10_way_34 : decode cX10_way 34 = .ok (.ireturn, 1) := by decide +kernel
theorem dX10_holes_0 : decode cX10_holes 0 = .ok (.aload_n 0, 1) := by decide +kernel
theorem dX10_holes_1 : decode cX10_holes 1 = .ok (.getfield 22, 3) := by decide +kernel
theorem dX10_holes_4 : decode cX10_holes 4 = .ok (.getfield 153, 3) := by decide +kernel
theorem dX10_holes_7 : decode cX10_holes 7 = .ok (.ireturn, 1) := by decide +kernel
theorem dX10_asked_0 : decode cX10_asked 0 = .ok (.aload_n 0, 1) := by decide +kernel
theorem dX10_asked_1 : decode cX10_asked 1 = .ok (.iload_n 1, 1) := by decide +kernel
theorem dX10_asked_2 : decode cX10_asked 2 = .ok (.invokevirtual 48, 3) := by decide +kernel
theorem dX10_asked_5 : decode cX10_asked 5 = .ok (.astore_n 2, 1) := by decide +kernel
theorem dX10_asked_6 : decode cX10_asked 6 = .ok (.aload_n 2, 1) := by decide +kernel
theorem dX10_asked_7 : decode cX10_asked 7 = .ok (.ifnonnull 8, 3) := by decide +kernel
theorem dX10_asked_10 : decode cX10_asked 10 = .ok (.ldc 52, 2) := by decide +kernel
theorem dX10_asked_12 : decode cX10_asked 12 = .ok (.goto 7, 3) := by decide +kernel
theorem dX10_asked_15 : decode cX10_asked 15 = .ok (.aload_n 2, 1) := by decide +kernel
theorem dX10_asked_16 : decode cX10_asked 16 = .ok (.getfield 156, 3) := by decide +kernel
theorem dX10_asked_19 : decode cX10_asked 19 = .ok (.ireturn, 1) := by decide +kernel
theorem dX10_tells_0 : decode cX10_tells 0 = .ok (.aload_n 0, 1) := by decide +kernel
theorem dX10_tells_1 : decode cX10_tells 1 = .ok (.iload_n 1, 1) := by decide +kernel
theorem dX10_tells_2 : decode cX10_tells 2 = .ok (.invokevirtual 48, 3) := by decide +kernel
theorem dX10_tells_5 : decode cX10_tells 5 = .ok (.astore_n 3, 1) := by decide +kernel
theorem dX10_tells_6 : decode cX10_tells 6 = .ok (.aload_n 3, 1) := by decide +kernel
theorem dX10_tells_7 : decode cX10_tells 7 = .ok (.ifnonnull 6, 3) := by decide +kernel
theorem dX10_tells_10 : decode cX10_tells 10 = .ok (.ldc 52, 2) := by decide +kernel
theorem dX10_tells_12 : decode cX10_tells 12 = .ok (.ireturn, 1) := by decide +kernel
theorem dX10_tells_13 : decode cX10_tells 13 = .ok (.iload_n 2, 1) := by decide +kernel
theorem dX10_tells_14 : decode cX10_tells 14 = .ok (.tableswitch 62 0 2 #[26, 38, 50], 26) := by decide +kernel
theorem dX10_tells_40 : decode cX10_tells 40 = .ok (.aload_n 3, 1) := by decide +kernel
theorem dX10_tells_41 : decode cX10_tells 41 = .ok (.invokevirtual 159, 3) := by decide +kernel
theorem dX10_tells_44 : decode cX10_tells 44 = .ok (.aload_n 3, 1) := by decide +kernel
theorem dX10_tells_45 : decode cX10_tells 45 = .ok (.invokevirtual 163, 3) := by decide +kernel
theorem dX10_tells_48 : decode cX10_tells 48 = .ok (.invokestatic 166, 3) := by decide +kernel
theorem dX10_tells_51 : decode cX10_tells 51 = .ok (.ireturn, 1) := by decide +kernel
theorem dX10_tells_52 : decode cX10_tells 52 = .ok (.aload_n 3, 1) := by decide +kernel
theorem dX10_tells_53 : decode cX10_tells 53 = .ok (.invokevirtual 169, 3) := by decide +kernel
theorem dX10_tells_56 : decode cX10_tells 56 = .ok (.aload_n 3, 1) := by decide +kernel
theorem dX10_tells_57 : decode cX10_tells 57 = .ok (.invokevirtual 172, 3) := by decide +kernel
theorem dX10_tells_60 : decode cX10_tells 60 = .ok (.invokestatic 166, 3) := by decide +kernel
theorem dX10_tells_63 : decode cX10_tells 63 = .ok (.ireturn, 1) := by decide +kernel
theorem dX10_tells_64 : decode cX10_tells 64 = .ok (.aload_n 3, 1) := by decide +kernel
theorem dX10_tells_65 : decode cX10_tells 65 = .ok (.invokevirtual 175, 3) := by decide +kernel
theorem dX10_tells_68 : decode cX10_tells 68 = .ok (.aload_n 3, 1) := by decide +kernel
theorem dX10_tells_69 : decode cX10_tells 69 = .ok (.invokevirtual 178, 3) := by decide +kernel
theorem dX10_tells_72 : decode cX10_tells 72 = .ok (.invokestatic 166, 3) := by decide +kernel
theorem dX10_tells_75 : decode cX10_tells 75 = .ok (.ireturn, 1) := by decide +kernel
theorem dX10_tells_76 : decode cX10_tells 76 = .ok (.ldc 42, 2) := by decide +kernel
theorem dX10_tells_78 : decode cX10_tells 78 = .ok (.ireturn, 1) := by decide +kernel
theorem dX10_is_0 : decode cX10_is 0 = .ok (.aload_n 0, 1) := by decide +kernel
theorem dX10_is_1 : decode cX10_is 1 = .ok (.iload_n 1, 1) := by decide +kernel
theorem dX10_is_2 : decode cX10_is 2 = .ok (.invokevirtual 48, 3) := by decide +kernel
theorem dX10_is_5 : decode cX10_is 5 = .ok (.astore_n 3, 1) := by decide +kernel
theorem dX10_is_6 : decode cX10_is 6 = .ok (.aload_n 3, 1) := by decide +kernel
theorem dX10_is_7 : decode cX10_is 7 = .ok (.ifnonnull 6, 3) := by decide +kernel
theorem dX10_is_10 : decode cX10_is 10 = .ok (.ldc 52, 2) := by decide +kernel
theorem dX10_is_12 : decode cX10_is 12 = .ok (.ireturn, 1) := by decide +kernel
theorem dX10_is_13 : decode cX10_is 13 = .ok (.iload_n 2, 1) := by decide +kernel
theorem dX10_is_14 : decode cX10_is 14 = .ok (.tableswitch 50 0 2 #[26, 34, 42], 26) := by decide +kernel
theorem dX10_is_40 : decode cX10_is 40 = .ok (.aload_n 3, 1) := by decide +kernel
theorem dX10_is_41 : decode cX10_is 41 = .ok (.instanceof 97, 3) := by decide +kernel
theorem dX10_is_44 : decode cX10_is 44 = .ok (.invokestatic 77, 3) := by decide +kernel
theorem dX10_is_47 : decode cX10_is 47 = .ok (.ireturn, 1) := by decide +kernel
theorem dX10_is_48 : decode cX10_is 48 = .ok (.aload_n 3, 1) := by decide +kernel
theorem dX10_is_49 : decode cX10_is 49 = .ok (.instanceof 181, 3) := by decide +kernel
theorem dX10_is_52 : decode cX10_is 52 = .ok (.invokestatic 77, 3) := by decide +kernel
theorem dX10_is_55 : decode cX10_is 55 = .ok (.ireturn, 1) := by decide +kernel
theorem dX10_is_56 : decode cX10_is 56 = .ok (.aload_n 3, 1) := by decide +kernel
theorem dX10_is_57 : decode cX10_is 57 = .ok (.instanceof 183, 3) := by decide +kernel
theorem dX10_is_60 : decode cX10_is 60 = .ok (.invokestatic 77, 3) := by decide +kernel
theorem dX10_is_63 : decode cX10_is 63 = .ok (.ireturn, 1) := by decide +kernel
theorem dX10_is_64 : decode cX10_is 64 = .ok (.ldc 42, 2) := by decide +kernel
theorem dX10_is_66 : decode cX10_is 66 = .ok (.ireturn, 1) := by decide +kernel
theorem dX10_count_0 : decode cX10_count 0 = .ok (.iload_n 1, 1) := by decide +kernel
theorem dX10_count_1 : decode cX10_count 1 = .ok (.tableswitch 57 0 3 #[31, 36, 44, 52], 31) := by decide +kernel
theorem dX10_count_32 : decode cX10_count 32 = .ok (.aload_n 0, 1) := by decide +kernel
theorem dX10_count_33 : decode cX10_count 33 = .ok (.getfield 15, 3) := by decide +kernel
theorem dX10_count_36 : decode cX10_count 36 = .ok (.ireturn, 1) := by decide +kernel
theorem dX10_count_37 : decode cX10_count 37 = .ok (.aload_n 0, 1) := by decide +kernel
theorem dX10_count_38 : decode cX10_count 38 = .ok (.getfield 22, 3) := by decide +kernel
theorem dX10_count_41 : decode cX10_count 41 = .ok (.getfield 109, 3) := by decide +kernel
theorem dX10_count_44 : decode cX10_count 44 = .ok (.ireturn, 1) := by decide +kernel
theorem dX10_count_45 : decode cX10_count 45 = .ok (.aload_n 0, 1) := by decide +kernel
theorem dX10_count_46 : decode cX10_count 46 = .ok (.getfield 22, 3) := by decide +kernel
theorem dX10_count_49 : decode cX10_count 49 = .ok (.getfield 185, 3) := by decide +kernel
theorem dX10_count_52 : decode cX10_count 52 = .ok (.ireturn, 1) := by decide +kernel
theorem dX10_count_53 : decode cX10_count 53 = .ok (.aload_n 0, 1) := by decide +kernel
theorem dX10_count_54 : decode cX10_count 54 = .ok (.getfield 39, 3) := by decide +kernel
theorem dX10_count_57 : decode cX10_count 57 = .ok (.ireturn, 1) := by decide +kernel
theorem dX10_count_58 : decode cX10_count 58 = .ok (.ldc 42, 2) := by decide +kernel
theorem dX10_count_60 : decode cX10_count 60 = .ok (.ireturn, 1) := by decide +kernel
theorem dX10_clear_0 : decode cX10_clear 0 = .ok (.aload_n 0, 1) := by decide +kernel
theorem dX10_clear_1 : decode cX10_clear 1 = .ok (.getfield 15, 3) := by decide +kernel
theorem dX10_clear_4 : decode cX10_clear 4 = .ok (.istore_n 1, 1) := by decide +kernel
theorem dX10_clear_5 : decode cX10_clear 5 = .ok (.aload_n 0, 1) := by decide +kernel
theorem dX10_clear_6 : decode cX10_clear 6 = .ok (.iconst 0, 1) := by decide +kernel
theorem dX10_clear_7 : decode cX10_clear 7 = .ok (.putfield 15, 3) := by decide +kernel
theorem dX10_clear_10 : decode cX10_clear 10 = .ok (.aload_n 0, 1) := by decide +kernel
theorem dX10_clear_11 : decode cX10_clear 11 = .ok (.getfield 22, 3) := by decide +kernel
theorem dX10_clear_14 : decode cX10_clear 14 = .ok (.invokevirtual 188, 3) := by decide +kernel
theorem dX10_clear_17 : decode cX10_clear 17 = .ok (.aload_n 0, 1) := by decide +kernel
theorem dX10_clear_18 : decode cX10_clear 18 = .ok (.ldc 29, 2) := by decide +kernel
theorem dX10_clear_20 : decode cX10_clear 20 = .ok (.ldc 29, 2) := by decide +kernel
theorem dX10_clear_22 : decode cX10_clear 22 = .ok (.iconst 0, 1) := by decide +kernel
theorem dX10_clear_23 : decode cX10_clear 23 = .ok (.invokevirtual 100, 3) := by decide +kernel
theorem dX10_clear_26 : decode cX10_clear 26 = .ok (.aload_n 0, 1) := by decide +kernel
theorem dX10_clear_27 : decode cX10_clear 27 = .ok (.iconst 0, 1) := by decide +kernel
theorem dX10_clear_28 : decode cX10_clear 28 = .ok (.putfield 39, 3) := by decide +kernel
theorem dX10_clear_31 : decode cX10_clear 31 = .ok (.iload_n 1, 1) := by decide +kernel
theorem dX10_clear_32 : decode cX10_clear 32 = .ok (.ireturn, 1) := by decide +kernel
theorem dX10_newThing_0 : decode cX10_newThing 0 = .ok (.iload_n 0, 1) := by decide +kernel
theorem dX10_newThing_1 : decode cX10_newThing 1 = .ok (.tableswitch 105 1 6 #[39, 50, 61, 72, 83, 94], 39) := by decide +kernel
theorem dX10_newThing_40 : decode cX10_newThing 40 = .ok (.new 181, 3) := by decide +kernel
theorem dX10_newThing_43 : decode cX10_newThing 43 = .ok (.dup, 1) := by decide +kernel
theorem dX10_newThing_44 : decode cX10_newThing 44 = .ok (.iload_n 1, 1) := by decide +kernel
theorem dX10_newThing_45 : decode cX10_newThing 45 = .ok (.iload_n 2, 1) := by decide +kernel
theorem dX10_newThing_46 : decode cX10_newThing 46 = .ok (.iload_n 3, 1) := by decide +kernel
theorem dX10_newThing_47 : decode cX10_newThing 47 = .ok (.invokespecial 191, 3) := by decide +kernel
theorem dX10_newThing_50 : decode cX10_newThing 50 = .ok (.areturn, 1) := by decide +kernel
theorem dX10_newThing_51 : decode cX10_newThing 51 = .ok (.new 183, 3) := by decide +kernel
theorem dX10_newThing_54 : decode cX10_newThing 54 = .ok (.dup, 1) := by decide +kernel
theorem dX10_newThing_55 : decode cX10_newThing 55 = .ok (.iload_n 1, 1) := by decide +kernel
theorem dX10_newThing_56 : decode cX10_newThing 56 = .ok (.iload_n 2, 1) := by decide +kernel
theorem dX10_newThing_57 : decode cX10_newThing 57 = .ok (.iload_n 3, 1) := by decide +kernel
theorem dX10_newThing_58 : decode cX10_newThing 58 = .ok (.invokespecial 193, 3) := by decide +kernel
theorem dX10_newThing_61 : decode cX10_newThing 61 = .ok (.areturn, 1) := by decide +kernel
theorem dX10_newThing_62 : decode cX10_newThing 62 = .ok (.new 194, 3) := by decide +kernel
theorem dX10_newThing_65 : decode cX10_newThing 65 = .ok (.dup, 1) := by decide +kernel
theorem dX10_newThing_66 : decode cX10_newThing 66 = .ok (.iload_n 1, 1) := by decide +kernel
theorem dX10_newThing_67 : decode cX10_newThing 67 = .ok (.iload_n 2, 1) := by decide +kernel
theorem dX10_newThing_68 : decode cX10_newThing 68 = .ok (.iload_n 3, 1) := by decide +kernel
theorem dX10_newThing_69 : decode cX10_newThing 69 = .ok (.invokespecial 196, 3) := by decide +kernel
theorem dX10_newThing_72 : decode cX10_newThing 72 = .ok (.areturn, 1) := by decide +kernel
theorem dX10_newThing_73 : decode cX10_newThing 73 = .ok (.new 86, 3) := by decide +kernel
theorem dX10_newThing_76 : decode cX10_newThing 76 = .ok (.dup, 1) := by decide +kernel
theorem dX10_newThing_77 : decode cX10_newThing 77 = .ok (.iload_n 1, 1) := by decide +kernel
theorem dX10_newThing_78 : decode cX10_newThing 78 = .ok (.iload_n 2, 1) := by decide +kernel
theorem dX10_newThing_79 : decode cX10_newThing 79 = .ok (.iload_n 3, 1) := by decide +kernel
theorem dX10_newThing_80 : decode cX10_newThing 80 = .ok (.invokespecial 197, 3) := by decide +kernel
theorem dX10_newThing_83 : decode cX10_newThing 83 = .ok (.areturn, 1) := by decide +kernel
theorem dX10_newThing_84 : decode cX10_newThing 84 = .ok (.new 198, 3) := by decide +kernel
theorem dX10_newThing_87 : decode cX10_newThing 87 = .ok (.dup, 1) := by decide +kernel
theorem dX10_newThing_88 : decode cX10_newThing 88 = .ok (.iload_n 1, 1) := by decide +kernel
theorem dX10_newThing_89 : decode cX10_newThing 89 = .ok (.iload_n 2, 1) := by decide +kernel
theorem dX10_newThing_90 : decode cX10_newThing 90 = .ok (.iload_n 3, 1) := by decide +kernel
theorem dX10_newThing_91 : decode cX10_newThing 91 = .ok (.invokespecial 200, 3) := by decide +kernel
theorem dX10_newThing_94 : decode cX10_newThing 94 = .ok (.areturn, 1) := by decide +kernel
theorem dX10_newThing_95 : decode cX10_newThing 95 = .ok (.new 201, 3) := by decide +kernel
theorem dX10_newThing_98 : decode cX10_newThing 98 = .ok (.dup, 1) := by decide +kernel
theorem dX10_newThing_99 : decode cX10_newThing 99 = .ok (.iload_n 1, 1) := by decide +kernel
theorem dX10_newThing_100 : decode cX10_newThing 100 = .ok (.iload_n 2, 1) := by decide +kernel
theorem dX10_newThing_101 : decode cX10_newThing 101 = .ok (.iload_n 3, 1) := by decide +kernel
theorem dX10_newThing_102 : decode cX10_newThing 102 = .ok (.invokespecial 203, 3) := by decide +kernel
theorem dX10_newThing_105 : decode cX10_newThing 105 = .ok (.areturn, 1) := by decide +kernel
theorem dX10_newThing_106 : decode cX10_newThing 106 = .ok (.new 204, 3) := by decide +kernel
theorem dX10_newThing_109 : decode cX10_newThing 109 = .ok (.dup, 1) := by decide +kernel
theorem dX10_newThing_110 : decode cX10_newThing 110 = .ok (.iload_n 1, 1) := by decide +kernel
theorem dX10_newThing_111 : decode cX10_newThing 111 = .ok (.iload_n 2, 1) := by decide +kernel
theorem dX10_newThing_112 : decode cX10_newThing 112 = .ok (.iload_n 3, 1) := by decide +kernel
theorem dX10_newThing_113 : decode cX10_newThing 113 = .ok (.invokespecial 206, 3) := by decide +kernel
theorem dX10_newThing_116 : decode cX10_newThing 116 = .ok (.areturn, 1) := by decide +kernel
theorem dX10_isThing_0 : decode cX10_isThing 0 = .ok (.iload_n 1, 1) := by decide +kernel
theorem dX10_isThing_1 : decode cX10_isThing 1 = .ok (.ifCond .lt 15, 3) := by decide +kernel
theorem dX10_isThing_4 : decode cX10_isThing 4 = .ok (.iload_n 1, 1) := by decide +kernel
theorem dX10_isThing_5 : decode cX10_isThing 5 = .ok (.aload_n 0, 1) := by decide +kernel
theorem dX10_isThing_6 : decode cX10_isThing 6 = .ok (.getfield 15, 3) := by decide +kernel
theorem dX10_isThing_9 : decode cX10_isThing 9 = .ok (.if_icmp .ge 7, 3) := by decide +kernel
theorem dX10_isThing_12 : decode cX10_isThing 12 = .ok (.iconst 1, 1) := by decide +kernel
theorem dX10_isThing_13 : decode cX10_isThing 13 = .ok (.goto 4, 3) := by decide +kernel
theorem dX10_isThing_16 : decode cX10_isThing 16 = .ok (.iconst 0, 1) := by decide +kernel
theorem dX10_isThing_17 : decode cX10_isThing 17 = .ok (.ireturn, 1) := by decide +kernel
theorem dX10_isThingOrNone_0 : decode cX10_isThingOrNone 0 = .ok (.iload_n 1, 1) := by decide +kernel
theorem dX10_isThingOrNone_1 : decode cX10_isThingOrNone 1 = .ok (.ldc 29, 2) := by decide +kernel
theorem dX10_isThingOrNone_3 : decode cX10_isThingOrNone 3 = .ok (.if_icmp .eq 11, 3) := by decide +kernel
theorem dX10_isThingOrNone_6 : decode cX10_isThingOrNone 6 = .ok (.aload_n 0, 1) := by decide +kernel
theorem dX10_isThingOrNone_7 : decode cX10_isThingOrNone 7 = .ok (.iload_n 1, 1) := by decide +kernel
theorem dX10_isThingOrNone_8 : decode cX10_isThingOrNone 8 = .ok (.invokevirtual 112, 3) := by decide +kernel
theorem dX10_isThingOrNone_11 : decode cX10_isThingOrNone 11 = .ok (.ifCond .eq 7, 3) := by decide +kernel
theorem dX10_isThingOrNone_14 : decode cX10_isThingOrNone 14 = .ok (.iconst 1, 1) := by decide +kernel
theorem dX10_isThingOrNone_15 : decode cX10_isThingOrNone 15 = .ok (.goto 4, 3) := by decide +kernel
theorem dX10_isThingOrNone_18 : decode cX10_isThingOrNone 18 = .ok (.iconst 0, 1) := by decide +kernel
theorem dX10_isThingOrNone_19 : decode cX10_isThingOrNone 19 = .ok (.ireturn, 1) := by decide +kernel
theorem dX10_known_0 : decode cX10_known 0 = .ok (.aload_n 0, 1) := by decide +kernel
theorem dX10_known_1 : decode cX10_known 1 = .ok (.iload_n 1, 1) := by decide +kernel
theorem dX10_known_2 : decode cX10_known 2 = .ok (.invokevirtual 112, 3) := by decide +kernel
theorem dX10_known_5 : decode cX10_known 5 = .ok (.ifCond .eq 12, 3) := by decide +kernel
theorem dX10_known_8 : decode cX10_known 8 = .ok (.aload_n 0, 1) := by decide +kernel
theorem dX10_known_9 : decode cX10_known 9 = .ok (.getfield 11, 3) := by decide +kernel
theorem dX10_known_12 : decode cX10_known 12 = .ok (.iload_n 1, 1) := by decide +kernel
theorem dX10_known_13 : decode cX10_known 13 = .ok (.aaload, 1) := by decide +kernel
theorem dX10_known_14 : decode cX10_known 14 = .ok (.goto 4, 3) := by decide +kernel
theorem dX10_known_17 : decode cX10_known 17 = .ok (.aconst_null, 1) := by decide +kernel
theorem dX10_known_18 : decode cX10_known 18 = .ok (.areturn, 1) := by decide +kernel
theorem dX10_isPlace_0 : decode cX10_isPlace 0 = .ok (.iload_n 0, 1) := by decide +kernel
theorem dX10_isPlace_1 : decode cX10_isPlace 1 = .ok (.ifCond .lt 13, 3) := by decide +kernel
theorem dX10_isPlace_4 : decode cX10_isPlace 4 = .ok (.iload_n 0, 1) := by decide +kernel
theorem dX10_isPlace_5 : decode cX10_isPlace 5 = .ok (.bipush 6, 2) := by decide +kernel
theorem dX10_isPlace_7 : decode cX10_isPlace 7 = .ok (.if_icmp .ge 7, 3) := by decide +kernel
theorem dX10_isPlace_10 : decode cX10_isPlace 10 = .ok (.iconst 1, 1) := by decide +kernel
theorem dX10_isPlace_11 : decode cX10_isPlace 11 = .ok (.goto 4, 3) := by decide +kernel
theorem dX10_isPlace_14 : decode cX10_isPlace 14 = .ok (.iconst 0, 1) := by decide +kernel
theorem dX10_isPlace_15 : decode cX10_isPlace 15 = .ok (.ireturn, 1) := by decide +kernel
theorem dX10_isStretch_0 : decode cX10_isStretch 0 = .ok (.iload_n 0, 1) := by decide +kernel
theorem dX10_isStretch_1 : decode cX10_isStretch 1 = .ok (.ifCond .lt 25, 3) := by decide +kernel
theorem dX10_isStretch_4 : decode cX10_isStretch 4 = .ok (.iload_n 1, 1) := by decide +kernel
theorem dX10_isStretch_5 : decode cX10_isStretch 5 = .ok (.ifCond .lt 21, 3) := by decide +kernel
theorem dX10_isStretch_8 : decode cX10_isStretch 8 = .ok (.iload_n 1, 1) := by decide +kernel
theorem dX10_isStretch_9 : decode cX10_isStretch 9 = .ok (.bipush 6, 2) := by decide +kernel
theorem dX10_isStretch_11 : decode cX10_isStretch 11 = .ok (.if_icmp .gt 15, 3) := by decide +kernel
theorem dX10_isStretch_14 : decode cX10_isStretch 14 = .ok (.iload_n 0, 1) := by decide +kernel
theorem dX10_isStretch_15 : decode cX10_isStretch 15 = .ok (.bipush 6, 2) := by decide +kernel
theorem dX10_isStretch_17 : decode cX10_isStretch 17 = .ok (.iload_n 1, 1) := by decide +kernel
theorem dX10_isStretch_18 : decode cX10_isStretch 18 = .ok (.isub, 1) := by decide +kernel
theorem dX10_isStretch_19 : decode cX10_isStretch 19 = .ok (.if_icmp .gt 7, 3) := by decide +kernel
theorem dX10_isStretch_22 : decode cX10_isStretch 22 = .ok (.iconst 1, 1) := by decide +kernel
theorem dX10_isStretch_23 : decode cX10_isStretch 23 = .ok (.goto 4, 3) := by decide +kernel
theorem dX10_isStretch_26 : decode cX10_isStretch 26 = .ok (.iconst 0, 1) := by decide +kernel
theorem dX10_isStretch_27 : decode cX10_isStretch 27 = .ok (.ireturn, 1) := by decide +kernel
theorem dX10_asNumber_0 : decode cX10_asNumber 0 = .ok (.iload_n 0, 1) := by decide +kernel
theorem dX10_asNumber_1 : decode cX10_asNumber 1 = .ok (.ifCond .eq 7, 3) := by decide +kernel
theorem dX10_asNumber_4 : decode cX10_asNumber 4 = .ok (.iconst 1, 1) := by decide +kernel
theorem dX10_asNumber_5 : decode cX10_asNumber 5 = .ok (.goto 4, 3) := by decide +kernel
theorem dX10_asNumber_8 : decode cX10_asNumber 8 = .ok (.iconst 0, 1) := by decide +kernel
theorem dX10_asNumber_9 : decode cX10_asNumber 9 = .ok (.ireturn, 1) := by decide +kernel
theorem dX10_toldOrFailed_0 : decode cX10_toldOrFailed 0 = .ok (.iload_n 1, 1) := by decide +kernel
theorem dX10_toldOrFailed_1 : decode cX10_toldOrFailed 1 = .ok (.ifCond .ne 7, 3) := by decide +kernel
theorem dX10_toldOrFailed_4 : decode cX10_toldOrFailed 4 = .ok (.iload_n 0, 1) := by decide +kernel
theorem dX10_toldOrFailed_5 : decode cX10_toldOrFailed 5 = .ok (.goto 7, 3) := by decide +kernel
theorem dX10_toldOrFailed_8 : decode cX10_toldOrFailed 8 = .ok (.ldc 108, 2) := by decide +kernel
theorem dX10_toldOrFailed_10 : decode cX10_toldOrFailed 10 = .ok (.iload_n 1, 1) := by decide +kernel
theorem dX10_toldOrFailed_11 : decode cX10_toldOrFailed 11 = .ok (.isub, 1) := by decide +kernel
theorem dX10_toldOrFailed_12 : decode cX10_toldOrFailed 12 = .ok (.ireturn, 1) := by decide +kernel
theorem dX10_countUpToBridge_0 : decode cX10_countUpToBridge 0 = .ok (.iconst 0, 1) := by decide +kernel
theorem dX10_countUpToBridge_1 : decode cX10_countUpToBridge 1 = .ok (.istore_n 3, 1) := by decide +kernel
theorem dX10_countUpToBridge_2 : decode cX10_countUpToBridge 2 = .ok (.iload_n 3, 1) := by decide +kernel
theorem dX10_countUpToBridge_3 : decode cX10_countUpToBridge 3 = .ok (.iload_n 2, 1) := by decide +kernel
theorem dX10_countUpToBridge_4 : decode cX10_countUpToBridge 4 = .ok (.if_icmp .ge 22, 3) := by decide +kernel
theorem dX10_countUpToBridge_7 : decode cX10_countUpToBridge 7 = .ok (.aload_n 0, 1) := by decide +kernel
theorem dX10_countUpToBridge_8 : decode cX10_countUpToBridge 8 = .ok (.iload_n 1, 1) := by decide +kernel
theorem dX10_countUpToBridge_9 : decode cX10_countUpToBridge 9 = .ok (.iload_n 3, 1) := by decide +kernel
theorem dX10_countUpToBridge_10 : decode cX10_countUpToBridge 10 = .ok (.iadd, 1) := by decide +kernel
theorem dX10_countUpToBridge_11 : decode cX10_countUpToBridge 11 = .ok (.aaload, 1) := by decide +kernel
theorem dX10_countUpToBridge_12 : decode cX10_countUpToBridge 12 = .ok (.instanceof 183, 3) := by decide +kernel
theorem dX10_countUpToBridge_15 : decode cX10_countUpToBridge 15 = .ok (.ifCond .eq 5, 3) := by decide +kernel
theorem dX10_countUpToBridge_18 : decode cX10_countUpToBridge 18 = .ok (.iload_n 3, 1) := by decide +kernel
theorem dX10_countUpToBridge_19 : decode cX10_countUpToBridge 19 = .ok (.ireturn, 1) := by decide +kernel
theorem dX10_countUpToBridge_20 : decode cX10_countUpToBridge 20 = .ok (.iinc 3 1, 3) := by decide +kernel
theorem dX10_countUpToBridge_23 : decode cX10_countUpToBridge 23 = .ok (.goto (-21), 3) := by decide +kernel
theorem dX10_countUpToBridge_26 : decode cX10_countUpToBridge 26 = .ok (.iload_n 2, 1) := by decide +kernel
theorem dX10_countUpToBridge_27 : decode cX10_countUpToBridge 27 = .ok (.ireturn, 1) := by decide +kernel
theorem dX10_copyStretch_0 : decode cX10_copyStretch 0 = .ok (.iload_n 1, 1) := by decide +kernel
theorem dX10_copyStretch_1 : decode cX10_copyStretch 1 = .ok (.iload_n 3, 1) := by decide +kernel
theorem dX10_copyStretch_2 : decode cX10_copyStretch 2 = .ok (.if_icmp .lt 34, 3) := by decide +kernel
theorem dX10_copyStretch_5 : decode cX10_copyStretch 5 = .ok (.iconst 0, 1) := by decide +kernel
theorem dX10_copyStretch_6 : decode cX10_copyStretch 6 = .ok (.istore 5, 2) := by decide +kernel
theorem dX10_copyStretch_8 : decode cX10_copyStretch 8 = .ok (.iload 5, 2) := by decide +kernel
theorem dX10_copyStretch_10 : decode cX10_copyStretch 10 = .ok (.iload 4, 2) := by decide +kernel
theorem dX10_copyStretch_12 : decode cX10_copyStretch 12 = .ok (.if_icmp .ge 21, 3) := by decide +kernel
theorem dX10_copyStretch_15 : decode cX10_copyStretch 15 = .ok (.aload_n 2, 1) := by decide +kernel
theorem dX10_copyStretch_16 : decode cX10_copyStretch 16 = .ok (.iload_n 3, 1) := by decide +kernel
theorem dX10_copyStretch_17 : decode cX10_copyStretch 17 = .ok (.iload 5, 2) := by decide +kernel
theorem dX10_copyStretch_19 : decode cX10_copyStretch 19 = .ok (.iadd, 1) := by decide +kernel
theorem dX10_copyStretch_20 : decode cX10_copyStretch 20 = .ok (.aload_n 0, 1) := by decide +kernel
theorem dX10_copyStretch_21 : decode cX10_copyStretch 21 = .ok (.iload_n 1, 1) := by decide +kernel
theorem dX10_copyStretch_22 : decode cX10_copyStretch 22 = .ok (.iload 5, 2) := by decide +kernel
theorem dX10_copyStretch_24 : decode cX10_copyStretch 24 = .ok (.iadd, 1) := by decide +kernel
theorem dX10_copyStretch_25 : decode cX10_copyStretch 25 = .ok (.aaload, 1) := by decide +kernel
theorem dX10_copyStretch_26 : decode cX10_copyStretch 26 = .ok (.aastore, 1) := by decide +kernel
theorem dX10_copyStretch_27 : decode cX10_copyStretch 27 = .ok (.iinc 5 1, 3) := by decide +kernel
theorem dX10_copyStretch_30 : decode cX10_copyStretch 30 = .ok (.goto (-22), 3) := by decide +kernel
theorem dX10_copyStretch_33 : decode cX10_copyStretch 33 = .ok (.goto 32, 3) := by decide +kernel
theorem dX10_copyStretch_36 : decode cX10_copyStretch 36 = .ok (.iload 4, 2) := by decide +kernel
theorem dX10_copyStretch_38 : decode cX10_copyStretch 38 = .ok (.iconst 1, 1) := by decide +kernel
theorem dX10_copyStretch_39 : decode cX10_copyStretch 39 = .ok (.isub, 1) := by decide +kernel
theorem dX10_copyStretch_40 : decode cX10_copyStretch 40 = .ok (.istore 5, 2) := by decide +kernel
theorem dX10_copyStretch_42 : decode cX10_copyStretch 42 = .ok (.iload 5, 2) := by decide +kernel
theorem dX10_copyStretch_44 : decode cX10_copyStretch 44 = .ok (.ifCond .lt 21, 3) := by decide +kernel
theorem dX10_copyStretch_47 : decode cX10_copyStretch 47 = .ok (.aload_n 2, 1) := by decide +kernel
theorem dX10_copyStretch_48 : decode cX10_copyStretch 48 = .ok (.iload_n 3, 1) := by decide +kernel
theorem dX10_copyStretch_49 : decode cX10_copyStretch 49 = .ok (.iload 5, 2) := by decide +kernel
theorem dX10_copyStretch_51 : decode cX10_copyStretch 51 = .ok (.iadd, 1) := by decide +kernel
theorem dX10_copyStretch_52 : decode cX10_copyStretch 52 = .ok (.aload_n 0, 1) := by decide +kernel
theorem dX10_copyStretch_53 : decode cX10_copyStretch 53 = .ok (.iload_n 1, 1) := by decide +kernel
theorem dX10_copyStretch_54 : decode cX10_copyStretch 54 = .ok (.iload 5, 2) := by decide +kernel
theorem dX10_copyStretch_56 : decode cX10_copyStretch 56 = .ok (.iadd, 1) := by decide +kernel
theorem dX10_copyStretch_57 : decode cX10_copyStretch 57 = .ok (.aaload, 1) := by decide +kernel
theorem dX10_copyStretch_58 : decode cX10_copyStretch 58 = .ok (.aastore, 1) := by decide +kernel
theorem dX10_copyStretch_59 : decode cX10_copyStretch 59 = .ok (.iinc 5 (-1), 3) := by decide +kernel
theorem dX10_copyStretch_62 : decode cX10_copyStretch 62 = .ok (.goto (-20), 3) := by decide +kernel
theorem dX10_copyStretch_65 : decode cX10_copyStretch 65 = .ok (.return_, 1) := by decide +kernel
theorem dX10_endLoad_0 : decode cX10_endLoad 0 = .ok (.aload_n 0, 1) := by decide +kernel
theorem dX10_endLoad_1 : decode cX10_endLoad 1 = .ok (.iload_n 1, 1) := by decide +kernel
theorem dX10_endLoad_2 : decode cX10_endLoad 2 = .ok (.putfield 30, 3) := by decide +kernel
theorem dX10_endLoad_5 : decode cX10_endLoad 5 = .ok (.aload_n 0, 1) := by decide +kernel
theorem dX10_endLoad_6 : decode cX10_endLoad 6 = .ok (.iload_n 2, 1) := by decide +kernel
theorem dX10_endLoad_7 : decode cX10_endLoad 7 = .ok (.putfield 33, 3) := by decide +kernel
theorem dX10_endLoad_10 : decode cX10_endLoad 10 = .ok (.aload_n 0, 1) := by decide +kernel
theorem dX10_endLoad_11 : decode cX10_endLoad 11 = .ok (.iload_n 3, 1) := by decide +kernel
theorem dX10_endLoad_12 : decode cX10_endLoad 12 = .ok (.putfield 36, 3) := by decide +kernel
theorem dX10_endLoad_15 : decode cX10_endLoad 15 = .ok (.return_, 1) := by decide +kernel
theorem dX10_failed_0 : decode cX10_failed 0 = .ok (.aload_n 0, 1) := by decide +kernel
theorem dX10_failed_1 : decode cX10_failed 1 = .ok (.aload_n 1, 1) := by decide +kernel
theorem dX10_failed_2 : decode cX10_failed 2 = .ok (.getfield 207, 3) := by decide +kernel
theorem dX10_failed_5 : decode cX10_failed 5 = .ok (.ldc 29, 2) := by decide +kernel
theorem dX10_failed_7 : decode cX10_failed 7 = .ok (.iload_n 2, 1) := by decide +kernel
theorem dX10_failed_8 : decode cX10_failed 8 = .ok (.invokevirtual 100, 3) := by decide +kernel
theorem dX10_failed_11 : decode cX10_failed 11 = .ok (.iconst 0, 1) := by decide +kernel
theorem dX10_failed_12 : decode cX10_failed 12 = .ok (.ireturn, 1) := by decide +kernel
theorem dX10_build_0 : decode cX10_build 0 = .ok (.aload_n 0, 1) := by decide +kernel
theorem dX10_build_1 : decode cX10_build 1 = .ok (.getfield 26, 3) := by decide +kernel
theorem dX10_build_4 : decode cX10_build 4 = .ok (.invokevirtual 188, 3) := by decide +kernel
theorem dX10_build_7 : decode cX10_build 7 = .ok (.aload_n 0, 1) := by decide +kernel
theorem dX10_build_8 : decode cX10_build 8 = .ok (.getfield 26, 3) := by decide +kernel
theorem dX10_build_11 : decode cX10_build 11 = .ok (.aload_n 1, 1) := by decide +kernel
theorem dX10_build_12 : decode cX10_build 12 = .ok (.invokevirtual 208, 3) := by decide +kernel
theorem dX10_build_15 : decode cX10_build 15 = .ok (.pop, 1) := by decide +kernel
theorem dX10_build_16 : decode cX10_build 16 = .ok (.iconst 0, 1) := by decide +kernel
theorem dX10_build_17 : decode cX10_build 17 = .ok (.istore_n 3, 1) := by decide +kernel
theorem dX10_build_18 : decode cX10_build 18 = .ok (.iload_n 3, 1) := by decide +kernel
theorem dX10_build_19 : decode cX10_build 19 = .ok (.bipush 40, 2) := by decide +kernel
theorem dX10_build_21 : decode cX10_build 21 = .ok (.if_icmp .ge 79, 3) := by decide +kernel
theorem dX10_build_24 : decode cX10_build 24 = .ok (.iload_n 3, 1) := by decide +kernel
theorem dX10_build_25 : decode cX10_build 25 = .ok (.aload_n 0, 1) := by decide +kernel
theorem dX10_build_26 : decode cX10_build 26 = .ok (.getfield 26, 3) := by decide +kernel
theorem dX10_build_29 : decode cX10_build 29 = .ok (.getfield 109, 3) := by decide +kernel
theorem dX10_build_32 : decode cX10_build 32 = .ok (.if_icmp .ge 68, 3) := by decide +kernel
theorem dX10_build_35 : decode cX10_build 35 = .ok (.aload_n 0, 1) := by decide +kernel
theorem dX10_build_36 : decode cX10_build 36 = .ok (.getfield 26, 3) := by decide +kernel
theorem dX10_build_39 : decode cX10_build 39 = .ok (.getfield 122, 3) := by decide +kernel
theorem dX10_build_42 : decode cX10_build 42 = .ok (.iload_n 3, 1) := by decide +kernel
theorem dX10_build_43 : decode cX10_build 43 = .ok (.aaload, 1) := by decide +kernel
theorem dX10_build_44 : decode cX10_build 44 = .ok (.astore 4, 2) := by decide +kernel
theorem dX10_build_46 : decode cX10_build 46 = .ok (.iload_n 2, 1) := by decide +kernel
theorem dX10_build_47 : decode cX10_build 47 = .ok (.ifCond .eq 13, 3) := by decide +kernel
theorem dX10_build_50 : decode cX10_build 50 = .ok (.aload_n 0, 1) := by decide +kernel
theorem dX10_build_51 : decode cX10_build 51 = .ok (.iload_n 3, 1) := by decide +kernel
theorem dX10_build_52 : decode cX10_build 52 = .ok (.aload 4, 2) := by decide +kernel
theorem dX10_build_54 : decode cX10_build 54 = .ok (.invokevirtual 212, 3) := by decide +kernel
theorem dX10_build_57 : decode cX10_build 57 = .ok (.ifCond .eq 27, 3) := by decide +kernel
theorem dX10_build_60 : decode cX10_build 60 = .ok (.aload_n 0, 1) := by decide +kernel
theorem dX10_build_61 : decode cX10_build 61 = .ok (.iload_n 3, 1) := by decide +kernel
theorem dX10_build_62 : decode cX10_build 62 = .ok (.aload 4, 2) := by decide +kernel
theorem dX10_build_64 : decode cX10_build 64 = .ok (.invokevirtual 216, 3) := by decide +kernel
theorem dX10_build_67 : decode cX10_build 67 = .ok (.ifCond .eq 17, 3) := by decide +kernel
theorem dX10_build_70 : decode cX10_build 70 = .ok (.aload_n 0, 1) := by decide +kernel
theorem dX10_build_71 : decode cX10_build 71 = .ok (.iload_n 3, 1) := by decide +kernel
theorem dX10_build_72 : decode cX10_build 72 = .ok (.aload 4, 2) := by decide +kernel
theorem dX10_build_74 : decode cX10_build 74 = .ok (.invokevirtual 219, 3) := by decide +kernel
theorem dX10_build_77 : decode cX10_build 77 = .ok (.ifCond .eq 7, 3) := by decide +kernel
theorem dX10_build_80 : decode cX10_build 80 = .ok (.iconst 1, 1) := by decide +kernel
theorem dX10_build_81 : decode cX10_build 81 = .ok (.goto 4, 3) := by decide +kernel
theorem dX10_build_84 : decode cX10_build 84 = .ok (.iconst 0, 1) := by decide +kernel
theorem dX10_build_85 : decode cX10_build 85 = .ok (.istore 5, 2) := by decide +kernel
theorem dX10_build_87 : decode cX10_build 87 = .ok (.iload 5, 2) := by decide +kernel
theorem dX10_build_89 : decode cX10_build 89 = .ok (.ifCond .ne 5, 3) := by decide +kernel
theorem dX10_build_92 : decode cX10_build 92 = .ok (.iconst 0, 1) := by decide +kernel
theorem dX10_build_93 : decode cX10_build 93 = .ok (.ireturn, 1) := by decide +kernel
theorem dX10_build_94 : decode cX10_build 94 = .ok (.iinc 3 1, 3) := by decide +kernel
theorem dX10_build_97 : decode cX10_build 97 = .ok (.goto (-79), 3) := by decide +kernel
theorem dX10_build_100 : decode cX10_build 100 = .ok (.iconst 1, 1) := by decide +kernel
theorem dX10_build_101 : decode cX10_build 101 = .ok (.ireturn, 1) := by decide +kernel
theorem dX10_askKey_0 : decode cX10_askKey 0 = .ok (.aload_n 2, 1) := by decide +kernel
theorem dX10_askKey_1 : decode cX10_askKey 1 = .ok (.dup, 1) := by decide +kernel
theorem dX10_askKey_2 : decode cX10_askKey 2 = .ok (.getfield 222, 3) := by decide +kernel
theorem dX10_askKey_5 : decode cX10_askKey 5 = .ok (.iconst 1, 1) := by decide +kernel
theorem dX10_askKey_6 : decode cX10_askKey 6 = .ok (.iadd, 1) := by decide +kernel
theorem dX10_askKey_7 : decode cX10_askKey 7 = .ok (.putfield 222, 3) := by decide +kernel
theorem dX10_askKey_10 : decode cX10_askKey 10 = .ok (.aload_n 2, 1) := by decide +kernel
theorem dX10_askKey_11 : decode cX10_askKey 11 = .ok (.invokevirtual 223, 3) := by decide +kernel
theorem dX10_askKey_14 : decode cX10_askKey 14 = .ok (.istore_n 3, 1) := by decide +kernel
theorem dX10_askKey_15 : decode cX10_askKey 15 = .ok (.iload_n 3, 1) := by decide +kernel
theorem dX10_askKey_16 : decode cX10_askKey 16 = .ok (.ifCond .eq 10, 3) := by decide +kernel
theorem dX10_askKey_19 : decode cX10_askKey 19 = .ok (.aload_n 0, 1) := by decide +kernel
theorem dX10_askKey_20 : decode cX10_askKey 20 = .ok (.aload_n 2, 1) := by decide +kernel
theorem dX10_askKey_21 : decode cX10_askKey 21 = .ok (.iload_n 3, 1) := by decide +kernel
theorem dX10_askKey_22 : decode cX10_askKey 22 = .ok (.invokevirtual 224, 3) := by decide +kernel
theorem dX10_askKey_25 : decode cX10_askKey 25 = .ok (.ireturn, 1) := by decide +kernel
theorem dX10_askKey_26 : decode cX10_askKey 26 = .ok (.aload_n 2, 1) := by decide +kernel
theorem dX10_askKey_27 : decode cX10_askKey 27 = .ok (.invokevirtual 228, 3) := by decide +kernel
theorem dX10_askKey_30 : decode cX10_askKey 30 = .ok (.istore 4, 2) := by decide +kernel
theorem dX10_askKey_32 : decode cX10_askKey 32 = .ok (.iconst 0, 1) := by decide +kernel
theorem dX10_askKey_33 : decode cX10_askKey 33 = .ok (.istore 5, 2) := by decide +kernel
theorem dX10_askKey_35 : decode cX10_askKey 35 = .ok (.iload 5, 2) := by decide +kernel
theorem dX10_askKey_37 : decode cX10_askKey 37 = .ok (.iload_n 1, 1) := by decide +kernel
theorem dX10_askKey_38 : decode cX10_askKey 38 = .ok (.if_icmp .ge 48, 3) := by decide +kernel
theorem dX10_askKey_41 : decode cX10_askKey 41 = .ok (.aload_n 0, 1) := by decide +kernel
theorem dX10_askKey_42 : decode cX10_askKey 42 = .ok (.getfield 26, 3) := by decide +kernel
theorem dX10_askKey_45 : decode cX10_askKey 45 = .ok (.getfield 122, 3) := by decide +kernel
theorem dX10_askKey_48 : decode cX10_askKey 48 = .ok (.iload 5, 2) := by decide +kernel
theorem dX10_askKey_50 : decode cX10_askKey 50 = .ok (.aaload, 1) := by decide +kernel
theorem dX10_askKey_51 : decode cX10_askKey 51 = .ok (.astore 6, 2) := by decide +kernel
theorem dX10_askKey_53 : decode cX10_askKey 53 = .ok (.aload 6, 2) := by decide +kernel
theorem dX10_askKey_55 : decode cX10_askKey 55 = .ok (.invokevirtual 228, 3) := by decide +kernel
theorem dX10_askKey_58 : decode cX10_askKey 58 = .ok (.iload 4, 2) := by decide +kernel
theorem dX10_askKey_60 : decode cX10_askKey 60 = .ok (.if_icmp .ne 20, 3) := by decide +kernel
theorem dX10_askKey_63 : decode cX10_askKey 63 = .ok (.aload_n 0, 1) := by decide +kernel
theorem dX10_askKey_64 : decode cX10_askKey 64 = .ok (.aload_n 2, 1) := by decide +kernel
theorem dX10_askKey_65 : decode cX10_askKey 65 = .ok (.getfield 126, 3) := by decide +kernel
theorem dX10_askKey_68 : decode cX10_askKey 68 = .ok (.aload 6, 2) := by decide +kernel
theorem dX10_askKey_70 : decode cX10_askKey 70 = .ok (.getfield 126, 3) := by decide +kernel
theorem dX10_askKey_73 : decode cX10_askKey 73 = .ok (.bipush 6, 2) := by decide +kernel
theorem dX10_askKey_75 : decode cX10_askKey 75 = .ok (.invokevirtual 100, 3) := by decide +kernel
theorem dX10_askKey_78 : decode cX10_askKey 78 = .ok (.iconst 0, 1) := by decide +kernel
theorem dX10_askKey_79 : decode cX10_askKey 79 = .ok (.ireturn, 1) := by decide +kernel
theorem dX10_askKey_80 : decode cX10_askKey 80 = .ok (.iinc 5 1, 3) := by decide +kernel
theorem dX10_askKey_83 : decode cX10_askKey 83 = .ok (.goto (-48), 3) := by decide +kernel
theorem dX10_askKey_86 : decode cX10_askKey 86 = .ok (.iconst 1, 1) := by decide +kernel
theorem dX10_askKey_87 : decode cX10_askKey 87 = .ok (.ireturn, 1) := by decide +kernel
theorem dX10_askValue_0 : decode cX10_askValue 0 = .ok (.aload_n 2, 1) := by decide +kernel
theorem dX10_askValue_1 : decode cX10_askValue 1 = .ok (.dup, 1) := by decide +kernel
theorem dX10_askValue_2 : decode cX10_askValue 2 = .ok (.getfield 222, 3) := by decide +kernel
theorem dX10_askValue_5 : decode cX10_askValue 5 = .ok (.iconst 1, 1) := by decide +kernel
theorem dX10_askValue_6 : decode cX10_askValue 6 = .ok (.iadd, 1) := by decide +kernel
theorem dX10_askValue_7 : decode cX10_askValue 7 = .ok (.putfield 222, 3) := by decide +kernel
theorem dX10_askValue_10 : decode cX10_askValue 10 = .ok (.aload_n 2, 1) := by decide +kernel
theorem dX10_askValue_11 : decode cX10_askValue 11 = .ok (.invokevirtual 229, 3) := by decide +kernel
theorem dX10_askValue_14 : decode cX10_askValue 14 = .ok (.istore_n 3, 1) := by decide +kernel
theorem dX10_askValue_15 : decode cX10_askValue 15 = .ok (.iload_n 3, 1) := by decide +kernel
theorem dX10_askValue_16 : decode cX10_askValue 16 = .ok (.ifCond .eq 10, 3) := by decide +kernel
theorem dX10_askValue_19 : decode cX10_askValue 19 = .ok (.aload_n 0, 1) := by decide +kernel
theorem dX10_askValue_20 : decode cX10_askValue 20 = .ok (.aload_n 2, 1) := by decide +kernel
theorem dX10_askValue_21 : decode cX10_askValue 21 = .ok (.iload_n 3, 1) := by decide +kernel
theorem dX10_askValue_22 : decode cX10_askValue 22 = .ok (.invokevirtual 224, 3) := by decide +kernel
theorem dX10_askValue_25 : decode cX10_askValue 25 = .ok (.ireturn, 1) := by decide +kernel
theorem dX10_askValue_26 : decode cX10_askValue 26 = .ok (.aload_n 0, 1) := by decide +kernel
theorem dX10_askValue_27 : decode cX10_askValue 27 = .ok (.getfield 26, 3) := by decide +kernel
theorem dX10_askValue_30 : decode cX10_askValue 30 = .ok (.getfield 129, 3) := by decide +kernel
theorem dX10_askValue_33 : decode cX10_askValue 33 = .ok (.iload_n 1, 1) := by decide +kernel
theorem dX10_askValue_34 : decode cX10_askValue 34 = .ok (.aload_n 2, 1) := by decide +kernel
theorem dX10_askValue_35 : decode cX10_askValue 35 = .ok (.invokevirtual 230, 3) := by decide +kernel
theorem dX10_askValue_38 : decode cX10_askValue 38 = .ok (.iastore, 1) := by decide +kernel
theorem dX10_askValue_39 : decode cX10_askValue 39 = .ok (.iconst 1, 1) := by decide +kernel
theorem dX10_askValue_40 : decode cX10_askValue 40 = .ok (.ireturn, 1) := by decide +kernel
theorem dX10_askLinks_0 : decode cX10_askLinks 0 = .ok (.aload_n 2, 1) := by decide +kernel
theorem dX10_askLinks_1 : decode cX10_askLinks 1 = .ok (.dup, 1) := by decide +kernel
theorem dX10_askLinks_2 : decode cX10_askLinks 2 = .ok (.getfield 222, 3) := by decide +kernel
theorem dX10_askLinks_5 : decode cX10_askLinks 5 = .ok (.iconst 1, 1) := by decide +kernel
theorem dX10_askLinks_6 : decode cX10_askLinks 6 = .ok (.iadd, 1) := by decide +kernel
theorem dX10_askLinks_7 : decode cX10_askLinks 7 = .ok (.putfield 222, 3) := by decide +kernel
theorem dX10_askLinks_10 : decode cX10_askLinks 10 = .ok (.aload_n 2, 1) := by decide +kernel
theorem dX10_askLinks_11 : decode cX10_askLinks 11 = .ok (.invokevirtual 231, 3) := by decide +kernel
theorem dX10_askLinks_14 : decode cX10_askLinks 14 = .ok (.istore_n 3, 1) := by decide +kernel
theorem dX10_askLinks_15 : decode cX10_askLinks 15 = .ok (.iload_n 3, 1) := by decide +kernel
theorem dX10_askLinks_16 : decode cX10_askLinks 16 = .ok (.ifCond .eq 10, 3) := by decide +kernel
theorem dX10_askLinks_19 : decode cX10_askLinks 19 = .ok (.aload_n 0, 1) := by decide +kernel
theorem dX10_askLinks_20 : decode cX10_askLinks 20 = .ok (.aload_n 2, 1) := by decide +kernel
theorem dX10_askLinks_21 : decode cX10_askLinks 21 = .ok (.iload_n 3, 1) := by decide +kernel
theorem dX10_askLinks_22 : decode cX10_askLinks 22 = .ok (.invokevirtual 224, 3) := by decide +kernel
theorem dX10_askLinks_25 : decode cX10_askLinks 25 = .ok (.ireturn, 1) := by decide +kernel
theorem dX10_askLinks_26 : decode cX10_askLinks 26 = .ok (.aload_n 2, 1) := by decide +kernel
theorem dX10_askLinks_27 : decode cX10_askLinks 27 = .ok (.invokevirtual 232, 3) := by decide +kernel
theorem dX10_askLinks_30 : decode cX10_askLinks 30 = .ok (.istore 4, 2) := by decide +kernel
theorem dX10_askLinks_32 : decode cX10_askLinks 32 = .ok (.iconst 0, 1) := by decide +kernel
theorem dX10_askLinks_33 : decode cX10_askLinks 33 = .ok (.istore 5, 2) := by decide +kernel
theorem dX10_askLinks_35 : decode cX10_askLinks 35 = .ok (.iload 5, 2) := by decide +kernel
theorem dX10_askLinks_37 : decode cX10_askLinks 37 = .ok (.iload 4, 2) := by decide +kernel
theorem dX10_askLinks_39 : decode cX10_askLinks 39 = .ok (.if_icmp .ge 25, 3) := by decide +kernel
theorem dX10_askLinks_42 : decode cX10_askLinks 42 = .ok (.aload_n 0, 1) := by decide +kernel
theorem dX10_askLinks_43 : decode cX10_askLinks 43 = .ok (.aload_n 2, 1) := by decide +kernel
theorem dX10_askLinks_44 : decode cX10_askLinks 44 = .ok (.aload_n 2, 1) := by decide +kernel
theorem dX10_askLinks_45 : decode cX10_askLinks 45 = .ok (.iload 5, 2) := by decide +kernel
theorem dX10_askLinks_47 : decode cX10_askLinks 47 = .ok (.invokevirtual 233, 3) := by decide +kernel
theorem dX10_askLinks_50 : decode cX10_askLinks 50 = .ok (.invokevirtual 236, 3) := by decide +kernel
theorem dX10_askLinks_53 : decode cX10_askLinks 53 = .ok (.ifCond .ne 5, 3) := by decide +kernel
theorem dX10_askLinks_56 : decode cX10_askLinks 56 = .ok (.iconst 0, 1) := by decide +kernel
theorem dX10_askLinks_57 : decode cX10_askLinks 57 = .ok (.ireturn, 1) := by decide +kernel
theorem dX10_askLinks_58 : decode cX10_askLinks 58 = .ok (.iinc 5 1, 3) := by decide +kernel
theorem dX10_askLinks_61 : decode cX10_askLinks 61 = .ok (.goto (-26), 3) := by decide +kernel
theorem dX10_askLinks_64 : decode cX10_askLinks 64 = .ok (.aload_n 0, 1) := by decide +kernel
theorem dX10_askLinks_65 : decode cX10_askLinks 65 = .ok (.getfield 26, 3) := by decide +kernel
theorem dX10_askLinks_68 : decode cX10_askLinks 68 = .ok (.iload_n 1, 1) := by decide +kernel
theorem dX10_askLinks_69 : decode cX10_askLinks 69 = .ok (.invokevirtual 240, 3) := by decide +kernel
theorem dX10_askLinks_72 : decode cX10_askLinks 72 = .ok (.iconst 1, 1) := by decide +kernel
theorem dX10_askLinks_73 : decode cX10_askLinks 73 = .ok (.ireturn, 1) := by decide +kernel
theorem dX10_follow_0 : decode cX10_follow 0 = .ok (.aload_n 2, 1) := by decide +kernel
theorem dX10_follow_1 : decode cX10_follow 1 = .ok (.instanceof 183, 3) := by decide +kernel
theorem dX10_follow_4 : decode cX10_follow 4 = .ok (.ifCond .eq 15, 3) := by decide +kernel
theorem dX10_follow_7 : decode cX10_follow 7 = .ok (.aload_n 2, 1) := by decide +kernel
theorem dX10_follow_8 : decode cX10_follow 8 = .ok (.checkcast 183, 3) := by decide +kernel
theorem dX10_follow_11 : decode cX10_follow 11 = .ok (.astore_n 3, 1) := by decide +kernel
theorem dX10_follow_12 : decode cX10_follow 12 = .ok (.aload_n 0, 1) := by decide +kernel
theorem dX10_follow_13 : decode cX10_follow 13 = .ok (.aload_n 1, 1) := by decide +kernel
theorem dX10_follow_14 : decode cX10_follow 14 = .ok (.aload_n 3, 1) := by decide +kernel
theorem dX10_follow_15 : decode cX10_follow 15 = .ok (.invokevirtual 244, 3) := by decide +kernel
theorem dX10_follow_18 : decode cX10_follow 18 = .ok (.ireturn, 1) := by decide +kernel
theorem dX10_follow_19 : decode cX10_follow 19 = .ok (.aload_n 2, 1) := by decide +kernel
theorem dX10_follow_20 : decode cX10_follow 20 = .ok (.instanceof 97, 3) := by decide +kernel
theorem dX10_follow_23 : decode cX10_follow 23 = .ok (.ifCond .eq 21, 3) := by decide +kernel
theorem dX10_follow_26 : decode cX10_follow 26 = .ok (.aload_n 2, 1) := by decide +kernel
theorem dX10_follow_27 : decode cX10_follow 27 = .ok (.checkcast 97, 3) := by decide +kernel
theorem dX10_follow_30 : decode cX10_follow 30 = .ok (.astore_n 3, 1) := by decide +kernel
theorem dX10_follow_31 : decode cX10_follow 31 = .ok (.aload_n 0, 1) := by decide +kernel
theorem dX10_follow_32 : decode cX10_follow 32 = .ok (.getfield 26, 3) := by decide +kernel
theorem dX10_follow_35 : decode cX10_follow 35 = .ok (.aload_n 3, 1) := by decide +kernel
theorem dX10_follow_36 : decode cX10_follow 36 = .ok (.iconst 1, 1) := by decide +kernel
theorem dX10_follow_37 : decode cX10_follow 37 = .ok (.iconst 0, 1) := by decide +kernel
theorem dX10_follow_38 : decode cX10_follow 38 = .ok (.invokevirtual 248, 3) := by decide +kernel
theorem dX10_follow_41 : decode cX10_follow 41 = .ok (.goto 16, 3) := by decide +kernel
theorem dX10_follow_44 : decode cX10_follow 44 = .ok (.aload_n 0, 1) := by decide +kernel
theorem dX10_follow_45 : decode cX10_follow 45 = .ok (.getfield 26, 3) := by decide +kernel
theorem dX10_follow_48 : decode cX10_follow 48 = .ok (.dup, 1) := by decide +kernel
theorem dX10_follow_49 : decode cX10_follow 49 = .ok (.getfield 153, 3) := by decide +kernel
theorem dX10_follow_52 : decode cX10_follow 52 = .ok (.iconst 1, 1) := by decide +kernel
theorem dX10_follow_53 : decode cX10_follow 53 = .ok (.iadd, 1) := by decide +kernel
theorem dX10_follow_54 : decode cX10_follow 54 = .ok (.putfield 153, 3) := by decide +kernel
theorem dX10_follow_57 : decode cX10_follow 57 = .ok (.iconst 1, 1) := by decide +kernel
theorem dX10_follow_58 : decode cX10_follow 58 = .ok (.ireturn, 1) := by decide +kernel
theorem dX10_cross_0 : decode cX10_cross 0 = .ok (.aload_n 2, 1) := by decide +kernel
theorem dX10_cross_1 : decode cX10_cross 1 = .ok (.dup, 1) := by decide +kernel
theorem dX10_cross_2 : decode cX10_cross 2 = .ok (.getfield 252, 3) := by decide +kernel
theorem dX10_cross_5 : decode cX10_cross 5 = .ok (.iconst 1, 1) := by decide +kernel
theorem dX10_cross_6 : decode cX10_cross 6 = .ok (.iadd, 1) := by decide +kernel
theorem dX10_cross_7 : decode cX10_cross 7 = .ok (.putfield 252, 3) := by decide +kernel
theorem dX10_cross_10 : decode cX10_cross 10 = .ok (.aload_n 2, 1) := by decide +kernel
theorem dX10_cross_11 : decode cX10_cross 11 = .ok (.aload_n 1, 1) := by decide +kernel
theorem dX10_cross_12 : decode cX10_cross 12 = .ok (.invokevirtual 253, 3) := by decide +kernel
theorem dX10_cross_15 : decode cX10_cross 15 = .ok (.astore_n 3, 1) := by decide +kernel
theorem dX10_cross_16 : decode cX10_cross 16 = .ok (.aload_n 3, 1) := by decide +kernel
theorem dX10_cross_17 : decode cX10_cross 17 = .ok (.ifnonnull 10, 3) := by decide +kernel
theorem dX10_cross_20 : decode cX10_cross 20 = .ok (.aload_n 0, 1) := by decide +kernel
theorem dX10_cross_21 : decode cX10_cross 21 = .ok (.aload_n 2, 1) := by decide +kernel
theorem dX10_cross_22 : decode cX10_cross 22 = .ok (.iconst 1, 1) := by decide +kernel
theorem dX10_cross_23 : decode cX10_cross 23 = .ok (.invokevirtual 224, 3) := by decide +kernel
theorem dX10_cross_26 : decode cX10_cross 26 = .ok (.ireturn, 1) := by decide +kernel
theorem dX10_cross_27 : decode cX10_cross 27 = .ok (.aload_n 3, 1) := by decide +kernel
theorem dX10_cross_28 : decode cX10_cross 28 = .ok (.instanceof 97, 3) := by decide +kernel
theorem dX10_cross_31 : decode cX10_cross 31 = .ok (.ifCond .eq 12, 3) := by decide +kernel
theorem dX10_cross_34 : decode cX10_cross 34 = .ok (.aload_n 3, 1) := by decide +kernel
theorem dX10_cross_35 : decode cX10_cross 35 = .ok (.checkcast 97, 3) := by decide +kernel
theorem dX10_cross_38 : decode cX10_cross 38 = .ok (.astore 4, 2) := by decide +kernel
theorem dX10_cross_40 : decode cX10_cross 40 = .ok (.goto 10, 3) := by decide +kernel
theorem dX10_cross_43 : decode cX10_cross 43 = .ok (.aload_n 0, 1) := by decide +kernel
theorem dX10_cross_44 : decode cX10_cross 44 = .ok (.aload_n 2, 1) := by decide +kernel
theorem dX10_cross_45 : decode cX10_cross 45 = .ok (.iconst 3, 1) := by decide +kernel
theorem dX10_cross_46 : decode cX10_cross 46 = .ok (.invokevirtual 224, 3) := by decide +kernel
theorem dX10_cross_49 : decode cX10_cross 49 = .ok (.ireturn, 1) := by decide +kernel
theorem dX10_cross_50 : decode cX10_cross 50 = .ok (.aload_n 2, 1) := by decide +kernel
theorem dX10_cross_51 : decode cX10_cross 51 = .ok (.dup, 1) := by decide +kernel
theorem dX10_cross_52 : decode cX10_cross 52 = .ok (.getfield 252, 3) := by decide +kernel
theorem dX10_cross_55 : decode cX10_cross 55 = .ok (.iconst 1, 1) := by decide +kernel
theorem dX10_cross_56 : decode cX10_cross 56 = .ok (.iadd, 1) := by decide +kernel
theorem dX10_cross_57 : decode cX10_cross 57 = .ok (.putfield 252, 3) := by decide +kernel
theorem dX10_cross_60 : decode cX10_cross 60 = .ok (.aload_n 0, 1) := by decide +kernel
theorem dX10_cross_61 : decode cX10_cross 61 = .ok (.getfield 26, 3) := by decide +kernel
theorem dX10_cross_64 : decode cX10_cross 64 = .ok (.aload 4, 2) := by decide +kernel
theorem dX10_cross_66 : decode cX10_cross 66 = .ok (.aload_n 2, 1) := by decide +kernel
theorem dX10_cross_67 : decode cX10_cross 67 = .ok (.invokevirtual 257, 3) := by decide +kernel
theorem dX10_cross_70 : decode cX10_cross 70 = .ok (.iconst 1, 1) := by decide +kernel
theorem dX10_cross_71 : decode cX10_cross 71 = .ok (.invokevirtual 248, 3) := by decide +kernel
theorem dX10_cross_74 : decode cX10_cross 74 = .ok (.iconst 1, 1) := by decide +kernel
theorem dX10_cross_75 : decode cX10_cross 75 = .ok (.ireturn, 1) := by decide +kernel
theorem dX11_init_0 : decode cX11_init 0 = .ok (.aload_n 0, 1) := by decide +kernel
theorem dX11_init_1 : decode cX11_init 1 = .ok (.invokespecial 1, 3) := by decide +kernel
theorem dX11_init_4 : decode cX11_init 4 = .ok (.aload_n 0, 1) := by decide +kernel
theorem dX11_init_5 : decode cX11_init 5 = .ok (.bipush 40, 2) := by decide +kernel
theorem dX11_init_7 : decode cX11_init 7 = .ok (.newarray .int, 2) := by decide +kernel
theorem dX11_init_9 : decode cX11_init 9 = .ok (.putfield 7, 3) := by decide +kernel
theorem dX11_init_12 : decode cX11_init 12 = .ok (.aload_n 0, 1) := by decide +kernel
theorem dX11_init_13 : decode cX11_init 13 = .ok (.bipush 40, 2) := by decide +kernel
theorem dX11_init_15 : decode cX11_init 15 = .ok (.newarray .int, 2) := by decide +kernel
theorem dX11_init_17 : decode cX11_init 17 = .ok (.putfield 13, 3) := by decide +kernel
theorem dX11_init_20 : decode cX11_init 20 = .ok (.aload_n 0, 1) := by decide +kernel
theorem dX11_init_21 : decode cX11_init 21 = .ok (.bipush 40, 2) := by decide +kernel
theorem dX11_init_23 : decode cX11_init 23 = .ok (.newarray .int, 2) := by decide +kernel
theorem dX11_init_25 : decode cX11_init 25 = .ok (.putfield 16, 3) := by decide +kernel
theorem dX11_init_28 : decode cX11_init 28 = .ok (.aload_n 0, 1) := by decide +kernel
theorem dX11_init_29 : decode cX11_init 29 = .ok (.bipush 40, 2) := by decide +kernel
theorem dX11_init_31 : decode cX11_init 31 = .ok (.newarray .int, 2) := by decide +kernel
theorem dX11_init_33 : decode cX11_init 33 = .ok (.putfield 19, 3) := by decide +kernel
theorem dX11_init_36 : decode cX11_init 36 = .ok (.aload_n 0, 1) := by decide +kernel
theorem dX11_init_37 : decode cX11_init 37 = .ok (.sipush 240, 3) := by decide +kernel
theorem dX11_init_40 : decode cX11_init 40 = .ok (.newarray .int, 2) := by decide +kernel
theorem dX11_init_42 : decode cX11_init 42 = .ok (.putfield 22, 3) := by decide +kernel
theorem dX11_init_45 : decode cX11_init 45 = .ok (.aload_n 0, 1) := by decide +kernel
theorem dX11_init_46 : decode cX11_init 46 = .ok (.bipush 40, 2) := by decide +kernel
theorem dX11_init_48 : decode cX11_init 48 = .ok (.newarray .boolean, 2) := by decide +kernel
theorem dX11_init_50 : decode cX11_init 50 = .ok (.putfield 25, 3) := by decide +kernel
theorem dX11_init_53 : decode cX11_init 53 = .ok (.aload_n 0, 1) := by decide +kernel
theorem dX11_init_54 : decode cX11_init 54 = .ok (.bipush 40, 2) := by decide +kernel
theorem dX11_init_56 : decode cX11_init 56 = .ok (.newarray .int, 2) := by decide +kernel
theorem dX11_init_58 : decode cX11_init 58 = .ok (.putfield 29, 3) := by decide +kernel
theorem dX11_init_61 : decode cX11_init 61 = .ok (.aload_n 0, 1) := by decide +kernel
theorem dX11_init_62 : decode cX11_init 62 = .ok (.bipush 6, 2) := by decide +kernel
theorem dX11_init_64 : decode cX11_init 64 = .ok (.newarray .int, 2) := by decide +kernel
theorem dX11_init_66 : decode cX11_init 66 = .ok (.putfield 32, 3) := by decide +kernel
theorem dX11_init_69 : decode cX11_init 69 = .ok (.aload_n 0, 1) := by decide +kernel
theorem dX11_init_70 : decode cX11_init 70 = .ok (.bipush 6, 2) := by decide +kernel
theorem dX11_init_72 : decode cX11_init 72 = .ok (.newarray .int, 2) := by decide +kernel
theorem dX11_init_74 : decode cX11_init 74 = .ok (.putfield 35, 3) := by decide +kernel
theorem dX11_init_77 : decode cX11_init 77 = .ok (.aload_n 0, 1) := by decide +kernel
theorem dX11_init_78 : decode cX11_init 78 = .ok (.iconst 2, 1) := by decide +kernel
theorem dX11_init_79 : decode cX11_init 79 = .ok (.newarray .int, 2) := by decide +kernel
theorem dX11_init_81 : decode cX11_init 81 = .ok (.putfield 38, 3) := by decide +kernel
theorem dX11_init_84 : decode cX11_init 84 = .ok (.aload_n 0, 1) := by decide +kernel
theorem dX11_init_85 : decode cX11_init 85 = .ok (.bipush 80, 2) := by decide +kernel
theorem dX11_init_87 : decode cX11_init 87 = .ok (.newarray .int, 2) := by decide +kernel
theorem dX11_init_89 : decode cX11_init 89 = .ok (.putfield 41, 3) := by decide +kernel
theorem dX11_init_92 : decode cX11_init 92 = .ok (.aload_n 0, 1) := by decide +kernel
theorem dX11_init_93 : decode cX11_init 93 = .ok (.bipush 80, 2) := by decide +kernel
theorem dX11_init_95 : decode cX11_init 95 = .ok (.newarray .int, 2) := by decide +kernel
theorem dX11_init_97 : decode cX11_init 97 = .ok (.putfield 44, 3) := by decide +kernel
theorem dX11_init_100 : decode cX11_init 100 = .ok (.aload_n 0, 1) := by decide +kernel
theorem dX11_init_101 : decode cX11_init 101 = .ok (.bipush 80, 2) := by decide +kernel
theorem dX11_init_103 : decode cX11_init 103 = .ok (.newarray .int, 2) := by decide +kernel
theorem dX11_init_105 : decode cX11_init 105 = .ok (.putfield 47, 3) := by decide +kernel
theorem dX11_init_108 : decode cX11_init 108 = .ok (.aload_n 0, 1) := by decide +kernel
theorem dX11_init_109 : decode cX11_init 109 = .ok (.bipush 82, 2) := by decide +kernel
theorem dX11_init_111 : decode cX11_init 111 = .ok (.newarray .int, 2) := by decide +kernel
theorem dX11_init_113 : decode cX11_init 113 = .ok (.putfield 50, 3) := by decide +kernel
theorem dX11_init_116 : decode cX11_init 116 = .ok (.aload_n 0, 1) := by decide +kernel
theorem dX11_init_117 : decode cX11_init 117 = .ok (.iconst 2, 1) := by decide +kernel
theorem dX11_init_118 : decode cX11_init 118 = .ok (.newarray .int, 2) := by decide +kernel
theorem dX11_init_120 : decode cX11_init 120 = .ok (.putfield 53, 3) := by decide +kernel
theorem dX11_init_123 : decode cX11_init 123 = .ok (.aload_n 0, 1) := by decide +kernel
theorem dX11_init_124 : decode cX11_init 124 = .ok (.sipush 480, 3) := by decide +kernel
theorem dX11_init_127 : decode cX11_init 127 = .ok (.newarray .int, 2) := by decide +kernel
theorem dX11_init_129 : decode cX11_init 129 = .ok (.putfield 56, 3) := by decide +kernel
theorem dX11_init_132 : decode cX11_init 132 = .ok (.aload_n 0, 1) := by decide +kernel
theorem dX11_init_133 : decode cX11_init 133 = .ok (.sipush 480, 3) := by decide +kernel
theorem dX11_init_136 : decode cX11_init 136 = .ok (.newarray .int, 2) := by decide +kernel
theorem dX11_init_138 : decode cX11_init 138 = .ok (.putfield 59, 3) := by decide +kernel
theorem dX11_init_141 : decode cX11_init 141 = .ok (.aload_n 0, 1) := by decide +kernel
theorem dX11_init_142 : decode cX11_init 142 = .ok (.sipush 480, 3) := by decide +kernel
theorem dX11_init_145 : decode cX11_init 145 = .ok (.newarray .boolean, 2) := by decide +kernel
theorem dX11_init_147 : decode cX11_init 147 = .ok (.putfield 62, 3) := by decide +kernel
theorem dX11_init_150 : decode cX11_init 150 = .ok (.aload_n 0, 1) := by decide +kernel
theorem dX11_init_151 : decode cX11_init 151 = .ok (.iconst 2, 1) := by decide +kernel
theorem dX11_init_152 : decode cX11_init 152 = .ok (.newarray .int, 2) := by decide +kernel
theorem dX11_init_154 : decode cX11_init 154 = .ok (.putfield 65, 3) := by decide +kernel
theorem dX11_init_157 : decode cX11_init 157 = .ok (.aload_n 0, 1) := by decide +kernel
theorem dX11_init_158 : decode cX11_init 158 = .ok (.bipush 40, 2) := by decide +kernel
theorem dX11_init_160 : decode cX11_init 160 = .ok (.newarray .int, 2) := by decide +kernel
theorem dX11_init_162 : decode cX11_init 162 = .ok (.putfield 68, 3) := by decide +kernel
theorem dX11_init_165 : decode cX11_init 165 = .ok (.aload_n 0, 1) := by decide +kernel
theorem dX11_init_166 : decode cX11_init 166 = .ok (.bipush 40, 2) := by decide +kernel
theorem dX11_init_168 : decode cX11_init 168 = .ok (.newarray .int, 2) := by decide +kernel
theorem dX11_init_170 : decode cX11_init 170 = .ok (.putfield 71, 3) := by decide +kernel
theorem dX11_init_173 : decode cX11_init 173 = .ok (.aload_n 0, 1) := by decide +kernel
theorem dX11_init_174 : decode cX11_init 174 = .ok (.invokevirtual 74, 3) := by decide +kernel
theorem dX11_init_177 : decode cX11_init 177 = .ok (.return_, 1) := by decide +kernel
theorem dX11_in_0 : decode cX11_in 0 = .ok (.iload_n 0, 1) := by decide +kernel
theorem dX11_in_1 : decode cX11_in 1 = .ok (.iload_n 1, 1) := by decide +kernel
theorem dX11_in_2 : decode cX11_in 2 = .ok (.if_icmp .lt 12, 3) := by decide +kernel
theorem dX11_in_5 : decode cX11_in 5 = .ok (.iload_n 0, 1) := by decide +kernel
theorem dX11_in_6 : decode cX11_in 6 = .ok (.iload_n 2, 1) := by decide +kernel
theorem dX11_in_7 : decode cX11_in 7 = .ok (.if_icmp .gt 7, 3) := by decide +kernel
theorem dX11_in_10 : decode cX11_in 10 = .ok (.iconst 1, 1) := by decide +kernel
theorem dX11_in_11 : decode cX11_in 11 = .ok (.goto 4, 3) := by decide +kernel
theorem dX11_in_14 : decode cX11_in 14 = .ok (.iconst 0, 1) := by decide +kernel
theorem dX11_in_15 : decode cX11_in 15 = .ok (.ireturn, 1) := by decide +kernel
theorem dX11_isThing_0 : decode cX11_isThing 0 = .ok (.iload_n 1, 1) := by decide +kernel
theorem dX11_isThing_1 : decode cX11_isThing 1 = .ok (.iconst 0, 1) := by decide +kernel
theorem dX11_isThing_2 : decode cX11_isThing 2 = .ok (.aload_n 0, 1) := by decide +kernel
theorem dX11_isThing_3 : decode cX11_isThing 3 = .ok (.getfield 77, 3) := by decide +kernel
theorem dX11_isThing_6 : decode cX11_isThing 6 = .ok (.iconst 1, 1) := by decide +kernel
theorem dX11_isThing_7 : decode cX11_isThing 7 = .ok (.isub, 1) := by decide +kernel
theorem dX11_isThing_8 : decode cX11_isThing 8 = .ok (.invokestatic 81, 3) := by decide +kernel
theorem dX11_isThing_11 : decode cX11_isThing 11 = .ok (.ireturn, 1) := by decide +kernel
theorem dX11_thing_0 : decode cX11_thing 0 = .ok (.iload_n 1, 1) := by decide +kernel
theorem dX11_thing_1 : decode cX11_thing 1 = .ok (.iconst 0, 1) := by decide +kernel
theorem dX11_thing_2 : decode cX11_thing 2 = .ok (.bipush 6, 2) := by decide +kernel
theorem dX11_thing_4 : decode cX11_thing 4 = .ok (.invokestatic 81, 3) := by decide +kernel
theorem dX11_thing_7 : decode cX11_thing 7 = .ok (.ifCond .ne 6, 3) := by decide +kernel
theorem dX11_thing_10 : decode cX11_thing 10 = .ok (.ldc 85, 2) := by decide +kernel
theorem dX11_thing_12 : decode cX11_thing 12 = .ok (.ireturn, 1) := by decide +kernel
theorem dX11_thing_13 : decode cX11_thing 13 = .ok (.aload_n 0, 1) := by decide +kernel
theorem dX11_thing_14 : decode cX11_thing 14 = .ok (.getfield 77, 3) := by decide +kernel
theorem dX11_thing_17 : decode cX11_thing 17 = .ok (.bipush 40, 2) := by decide +kernel
theorem dX11_thing_19 : decode cX11_thing 19 = .ok (.if_icmp .ne 6, 3) := by decide +kernel
theorem dX11_thing_22 : decode cX11_thing 22 = .ok (.ldc 86, 2) := by decide +kernel
theorem dX11_thing_24 : decode cX11_thing 24 = .ok (.ireturn, 1) := by decide +kernel
theorem dX11_thing_25 : decode cX11_thing 25 = .ok (.aload_n 0, 1) := by decide +kernel
theorem dX11_thing_26 : decode cX11_thing 26 = .ok (.getfield 77, 3) := by decide +kernel
theorem dX11_thing_29 : decode cX11_thing 29 = .ok (.istore 4, 2) := by decide +kernel
theorem dX11_thing_31 : decode cX11_thing 31 = .ok (.aload_n 0, 1) := by decide +kernel
theorem dX11_thing_32 : decode cX11_thing 32 = .ok (.getfield 7, 3) := by decide +kernel
theorem dX11_thing_35 : decode cX11_thing 35 = .ok (.iload 4, 2) := by decide +kernel
theorem dX11_thing_37 : decode cX11_thing 37 = .ok (.iload_n 1, 1) := by decide +kernel
theorem dX11_thing_38 : decode cX11_thing 38 = .ok (.iastore, 1) := by decide +kernel
theorem dX11_thing_39 : decode cX11_thing 39 = .ok (.aload_n 0, 1) := by decide +kernel
theorem dX11_thing_40 : decode cX11_thing 40 = .ok (.getfield 13, 3) := by decide +kernel
theorem dX11_thing_43 : decode cX11_thing 43 = .ok (.iload 4, 2) := by decide +kernel
theorem dX11_thing_45 : decode cX11_thing 45 = .ok (.iload_n 2, 1) := by decide +kernel
theorem dX11_thing_46 : decode cX11_thing 46 = .ok (.iastore, 1) := by decide +kernel
theorem dX11_thing_47 : decode cX11_thing 47 = .ok (.aload_n 0, 1) := by decide +kernel
theorem dX11_thing_48 : decode cX11_thing 48 = .ok (.getfield 16, 3) := by decide +kernel
theorem dX11_thing_51 : decode cX11_thing 51 = .ok (.iload 4, 2) := by decide +kernel
theorem dX11_thing_53 : decode cX11_thing 53 = .ok (.iload_n 3, 1) := by decide +kernel
theorem dX11_thing_54 : decode cX11_thing 54 = .ok (.iastore, 1) := by decide +kernel
theorem dX11_thing_55 : decode cX11_thing 55 = .ok (.aload_n 0, 1) := by decide +kernel
theorem dX11_thing_56 : decode cX11_thing 56 = .ok (.getfield 19, 3) := by decide +kernel
theorem dX11_thing_59 : decode cX11_thing 59 = .ok (.iload 4, 2) := by decide +kernel
theorem dX11_thing_61 : decode cX11_thing 61 = .ok (.ldc 87, 2) := by decide +kernel
theorem dX11_thing_63 : decode cX11_thing 63 = .ok (.iastore, 1) := by decide +kernel
theorem dX11_thing_64 : decode cX11_thing 64 = .ok (.iconst 0, 1) := by decide +kernel
theorem dX11_thing_65 : decode cX11_thing 65 = .ok (.istore 5, 2) := by decide +kernel
theorem dX11_thing_67 : decode cX11_thing 67 = .ok (.iload 5, 2) := by decide +kernel
theorem dX11_thing_69 : decode cX11_thing 69 = .ok (.bipush 6, 2) := by decide +kernel
theorem dX11_thing_71 : decode cX11_thing 71 = .ok (.if_icmp .ge 24, 3) := by decide +kernel
theorem dX11_thing_74 : decode cX11_thing 74 = .ok (.aload_n 0, 1) := by decide +kernel
theorem dX11_thing_75 : decode cX11_thing 75 = .ok (.getfield 22, 3) := by decide +kernel
theorem dX11_thing_78 : decode cX11_thing 78 = .ok (.bipush 6, 2) := by decide +kernel
theorem dX11_thing_80 : decode cX11_thing 80 = .ok (.iload 4, 2) := by decide +kernel
theorem dX11_thing_82 : decode cX11_thing 82 = .ok (.imul, 1) := by decide +kernel
theorem dX11_thing_83 : decode cX11_thing 83 = .ok (.iload 5, 2) := by decide +kernel
theorem dX11_thing_85 : decode cX11_thing 85 = .ok (.iadd, 1) := by decide +kernel
theorem dX11_thing_86 : decode cX11_thing 86 = .ok (.ldc 87, 2) := by decide +kernel
theorem dX11_thing_88 : decode cX11_thing 88 = .ok (.iastore, 1) := by decide +kernel
theorem dX11_thing_89 : decode cX11_thing 89 = .ok (.iinc 5 1, 3) := by decide +kernel
theorem dX11_thing_92 : decode cX11_thing 92 = .ok (.goto (-25), 3) := by decide +kernel
theorem dX11_thing_95 : decode cX11_thing 95 = .ok (.aload_n 0, 1) := by decide +kernel
theorem dX11_thing_96 : decode cX11_thing 96 = .ok (.getfield 25, 3) := by decide +kernel
theorem dX11_thing_99 : decode cX11_thing 99 = .ok (.iload 4, 2) := by decide +kernel
theorem dX11_thing_101 : decode cX11_thing 101 = .ok (.iconst 0, 1) := by decide +kernel
theorem dX11_thing_102 : decode cX11_thing 102 = .ok (.bastore, 1) := by decide +kernel
theorem dX11_thing_103 : decode cX11_thing 103 = .ok (.aload_n 0, 1) := by decide +kernel
theorem dX11_thing_104 : decode cX11_thing 104 = .ok (.getfield 29, 3) := by decide +kernel
theorem dX11_thing_107 : decode cX11_thing 107 = .ok (.iload 4, 2) := by decide +kernel
theorem dX11_thing_109 : decode cX11_thing 109 = .ok (.iconst 0, 1) := by decide +kernel
theorem dX11_thing_110 : decode cX11_thing 110 = .ok (.iastore, 1) := by decide +kernel
theorem dX11_thing_111 : decode cX11_thing 111 = .ok (.aload_n 0, 1) := by decide +kernel
theorem dX11_thing_112 : decode cX11_thing 112 = .ok (.dup, 1) := by decide +kernel
theorem dX11_thing_113 : decode cX11_thing 113 = .ok (.getfield 77, 3) := by decide +kernel
theorem dX11_thing_116 : decode cX11_thing 116 = .ok (.iconst 1, 1) := by decide +kernel
theorem dX11_thing_117 : decode cX11_thing 117 = .ok (.iadd, 1) := by decide +kernel
theorem dX11_thing_118 : decode cX11_thing 118 = .ok (.putfield 77, 3) := by decide +kernel
theorem dX11_thing_121 : decode cX11_thing 121 = .ok (.iload 4, 2) := by decide +kernel
theorem dX11_thing_123 : decode cX11_thing 123 = .ok (.ireturn, 1) := by decide +kernel
theorem dX11_value_0 : decode cX11_value 0 = .ok (.aload_n 0, 1) := by decide +kernel
theorem dX11_value_1 : decode cX11_value 1 = .ok (.iload_n 1, 1) := by decide +kernel
theorem dX11_value_2 : decode cX11_value 2 = .ok (.invokevirtual 88, 3) := by decide +kernel
theorem dX11_value_5 : decode cX11_value 5 = .ok (.ifCond .ne 6, 3) := by decide +kernel
theorem dX11_value_8 : decode cX11_value 8 = .ok (.ldc 92, 2) := by decide +kernel
theorem dX11_value_10 : decode cX11_value 10 = .ok (.ireturn, 1) := by decide +kernel
theorem dX11_value_11 : decode cX11_value 11 = .ok (.aload_n 0, 1) := by decide +kernel
theorem dX11_value_12 : decode cX11_value 12 = .ok (.getfield 16, 3) := by decide +kernel
theorem dX11_value_15 : decode cX11_value 15 = .ok (.iload_n 1, 1) := by decide +kernel
theorem dX11_value_16 : decode cX11_value 16 = .ok (.iaload, 1) := by decide +kernel
theorem dX11_value_17 : decode cX11_value 17 = .ok (.istore_n 3, 1) := by decide +kernel
theorem dX11_value_18 : decode cX11_value 18 = .ok (.aload_n 0, 1) := by decide +kernel
theorem dX11_value_19 : decode cX11_value 19 = .ok (.getfield 16, 3) := by decide +kernel
theorem dX11_value_22 : decode cX11_value 22 = .ok (.iload_n 1, 1) := by decide +kernel
theorem dX11_value_23 : decode cX11_value 23 = .ok (.iload_n 2, 1) := by decide +kernel
theorem dX11_value_24 : decode cX11_value 24 = .ok (.iastore, 1) := by decide +kernel
theorem dX11_value_25 : decode cX11_value 25 = .ok (.iload_n 3, 1) := by decide +kernel
theorem dX11_value_26 : decode cX11_value 26 = .ok (.ireturn, 1) := by decide +kernel
theorem dX11_key_0 : decode cX11_key 0 = .ok (.aload_n 0, 1) := by decide +kernel
theorem dX11_key_1 : decode cX11_key 1 = .ok (.iload_n 1, 1) := by decide +kernel
theorem dX11_key_2 : decode cX11_key 2 = .ok (.invokevirtual 88, 3) := by decide +kernel
theorem dX11_key_5 : decode cX11_key 5 = .ok (.ifCond .ne 6, 3) := by decide +kernel
theorem dX11_key_8 : decode cX11_key 8 = .ok (.ldc 92, 2) := by decide +kernel
theorem dX11_key_10 : decode cX11_key 10 = .ok (.ireturn, 1) := by decide +kernel
theorem dX11_key_11 : decode cX11_key 11 = .ok (.aload_n 0, 1) := by decide +kernel
theorem dX11_key_12 : decode cX11_key 12 = .ok (.getfield 13, 3) := by decide +kernel
theorem dX11_key_15 : decode cX11_key 15 = .ok (.iload_n 1, 1) := by decide +kernel
theorem dX11_key_16 : decode cX11_key 16 = .ok (.iaload, 1) := by decide +kernel
theorem dX11_key_17 : decode cX11_key 17 = .ok (.istore_n 3, 1) := by decide +kernel
theorem dX11_key_18 : decode cX11_key 18 = .ok (.aload_n 0, 1) := by decide +kernel
theorem dX11_key_19 : decode cX11_key 19 = .ok (.getfield 13, 3) := by decide +kernel
theorem dX11_key_22 : decode cX11_key 22 = .ok (.iload_n 1, 1) := by decide +kernel
theorem dX11_key_23 : decode cX11_key 23 = .ok (.iload_n 2, 1) := by decide +kernel
theorem dX11_key_24 : decode cX11_key 24 = .ok (.iastore, 1) := by decide +kernel
theorem dX11_key_25 : decode cX11_key 25 = .ok (.iload_n 3, 1) := by decide +kernel
theorem dX11_key_26 : decode cX11_key 26 = .ok (.ireturn, 1) := by decide +kernel
theorem dX11_next_0 : decode cX11_next 0 = .ok (.aload_n 0, 1) := by decide +kernel
theorem dX11_next_1 : decode cX11_next 1 = .ok (.iload_n 1, 1) := by decide +kernel
theorem dX11_next_2 : decode cX11_next 2 = .ok (.invokevirtual 88, 3) := by decide +kernel
theorem dX11_next_5 : decode cX11_next 5 = .ok (.ifCond .eq 17, 3) := by decide +kernel
theorem dX11_next_8 : decode cX11_next 8 = .ok (.iload_n 2, 1) := by decide +kernel
theorem dX11_next_9 : decode cX11_next 9 = .ok (.ldc 87, 2) := by decide +kernel
theorem dX11_next_11 : decode cX11_next 11 = .ok (.if_icmp .eq 14, 3) := by decide +kernel
theorem dX11_next_14 : decode cX11_next 14 = .ok (.aload_n 0, 1) := by decide +kernel
theorem dX11_next_15 : decode cX11_next 15 = .ok (.iload_n 2, 1) := by decide +kernel
theorem dX11_next_16 : decode cX11_next 16 = .ok (.invokevirtual 88, 3) := by decide +kernel
theorem dX11_next_19 : decode cX11_next 19 = .ok (.ifCond .ne 6, 3) := by decide +kernel
theorem dX11_next_22 : decode cX11_next 22 = .ok (.ldc 92, 2) := by decide +kernel
theorem dX11_next_24 : decode cX11_next 24 = .ok (.ireturn, 1) := by decide +kernel
theorem dX11_next_25 : decode cX11_next 25 = .ok (.aload_n 0, 1) := by decide +kernel
theorem dX11_next_26 : decode cX11_next 26 = .ok (.getfield 19, 3) := by decide +kernel
theorem dX11_next_29 : decode cX11_next 29 = .ok (.iload_n 1, 1) := by decide +kernel
theorem dX11_next_30 : decode cX11_next 30 = .ok (.iload_n 2, 1) := by decide +kernel
theorem dX11_next_31 : decode cX11_next 31 = .ok (.iastore, 1) := by decide +kernel
theorem dX11_next_32 : decode cX11_next 32 = .ok (.iconst 1, 1) := by decide +kernel
theorem dX11_next_33 : decode cX11_next 33 = .ok (.ireturn, 1) := by decide +kernel
theorem dX11_place_0 : decode cX11_place 0 = .ok (.aload_n 0, 1) := by decide +kernel
theorem dX11_place_1 : decode cX11_place 1 = .ok (.iload_n 1, 1) := by decide +kernel
theorem dX11_place_2 : decode cX11_place 2 = .ok (.invokevirtual 88, 3) := by decide +kernel
theorem dX11_place_5 : decode cX11_place 5 = .ok (.ifCond .eq 17, 3) := by decide +kernel
theorem dX11_place_8 : decode cX11_place 8 = .ok (.iload_n 3, 1) := by decide +kernel
theorem dX11_place_9 : decode cX11_place 9 = .ok (.ldc 87, 2) := by decide +kernel
theorem dX11_place_11 : decode cX11_place 11 = .ok (.if_icmp .eq 14, 3) := by decide +kernel
theorem dX11_place_14 : decode cX11_place 14 = .ok (.aload_n 0, 1) := by decide +kernel
theorem dX11_place_15 : decode cX11_place 15 = .ok (.iload_n 3, 1) := by decide +kernel
theorem dX11_place_16 : decode cX11_place 16 = .ok (.invokevirtual 88, 3) := by decide +kernel
theorem dX11_place_19 : decode cX11_place 19 = .ok (.ifCond .ne 6, 3) := by decide +kernel
theorem dX11_place_22 : decode cX11_place 22 = .ok (.ldc 92, 2) := by decide +kernel
theorem dX11_place_24 : decode cX11_place 24 = .ok (.ireturn, 1) := by decide +kernel
theorem dX11_place_25 : decode cX11_place 25 = .ok (.iload_n 2, 1) := by decide +kernel
theorem dX11_place_26 : decode cX11_place 26 = .ok (.iconst 0, 1) := by decide +kernel
theorem dX11_place_27 : decode cX11_place 27 = .ok (.iconst 5, 1) := by decide +kernel
theorem dX11_place_28 : decode cX11_place 28 = .ok (.invokestatic 81, 3) := by decide +kernel
theorem dX11_place_31 : decode cX11_place 31 = .ok (.ifCond .ne 6, 3) := by decide +kernel
theorem dX11_place_34 : decode cX11_place 34 = .ok (.ldc 85, 2) := by decide +kernel
theorem dX11_place_36 : decode cX11_place 36 = .ok (.ireturn, 1) := by decide +kernel
theorem dX11_place_37 : decode cX11_place 37 = .ok (.aload_n 0, 1) := by decide +kernel
theorem dX11_place_38 : decode cX11_place 38 = .ok (.getfield 22, 3) := by decide +kernel
theorem dX11_place_41 : decode cX11_place 41 = .ok (.bipush 6, 2) := by decide +kernel
theorem dX11_place_43 : decode cX11_place 43 = .ok (.iload_n 1, 1) := by decide +kernel
theorem dX11_place_44 : decode cX11_place 44 = .ok (.imul, 1) := by decide +kernel
theorem dX11_place_45 : decode cX11_place 45 = .ok (.iload_n 2, 1) := by decide +kernel
theorem dX11_place_46 : decode cX11_place 46 = .ok (.iadd, 1) := by decide +kernel
theorem dX11_place_47 : decode cX11_place 47 = .ok (.iload_n 3, 1) := by decide +kernel
theorem dX11_place_48 : decode cX11_place 48 = .ok (.iastore, 1) := by decide +kernel
theorem dX11_place_49 : decode cX11_place 49 = .ok (.iconst 1, 1) := by decide +kernel
theorem dX11_place_50 : decode cX11_place 50 = .ok (.ireturn, 1) := by decide +kernel
theorem dX11_hold_0 : decode cX11_hold 0 = .ok (.aload_n 0, 1) := by decide +kernel
theorem dX11_hold_1 : decode cX11_hold 1 = .ok (.iload_n 1, 1) := by decide +kernel
theorem dX11_hold_2 : decode cX11_hold 2 = .ok (.invokevirtual 88, 3) := by decide +kernel
theorem dX11_hold_5 : decode cX11_hold 5 = .ok (.ifCond .ne 6, 3) := by decide +kernel
theorem dX11_hold_8 : decode cX11_hold 8 = .ok (.ldc 92, 2) := by decide +kernel
theorem dX11_hold_10 : decode cX11_hold 10 = .ok (.ireturn, 1) := by decide +kernel
theorem dX11_hold_11 : decode cX11_hold 11 = .ok (.aload_n 0, 1) := by decide +kernel
theorem dX11_hold_12 : decode cX11_hold 12 = .ok (.getfield 25, 3) := by decide +kernel
theorem dX11_hold_15 : decode cX11_hold 15 = .ok (.iload_n 1, 1) := by decide +kernel
theorem dX11_hold_16 : decode cX11_hold 16 = .ok (.baload, 1) := by decide +kernel
theorem dX11_hold_17 : decode cX11_hold 17 = .ok (.ifCond .eq 7, 3) := by decide +kernel
theorem dX11_hold_20 : decode cX11_hold 20 = .ok (.iconst 1, 1) := by decide +kernel
theorem dX11_hold_21 : decode cX11_hold 21 = .ok (.goto 4, 3) := by decide +kernel
theorem dX11_hold_24 : decode cX11_hold 24 = .ok (.iconst 0, 1) := by decide +kernel
theorem dX11_hold_25 : decode cX11_hold 25 = .ok (.istore_n 3, 1) := by decide +kernel
theorem dX11_hold_26 : decode cX11_hold 26 = .ok (.aload_n 0, 1) := by decide +kernel
theorem dX11_hold_27 : decode cX11_hold 27 = .ok (.getfield 25, 3) := by decide +kernel
theorem dX11_hold_30 : decode cX11_hold 30 = .ok (.iload_n 1, 1) := by decide +kernel
theorem dX11_hold_31 : decode cX11_hold 31 = .ok (.iload_n 2, 1) := by decide +kernel
theorem dX11_hold_32 : decode cX11_hold 32 = .ok (.bastore, 1) := by decide +kernel
theorem dX11_hold_33 : decode cX11_hold 33 = .ok (.iload_n 3, 1) := by decide +kernel
theorem dX11_hold_34 : decode cX11_hold 34 = .ok (.ireturn, 1) := by decide +kernel
theorem dX11_isBridge_0 : decode cX11_isBridge 0 = .ok (.iload_n 1, 1) := by decide +kernel
theorem dX11_isBridge_1 : decode cX11_isBridge 1 = .ok (.ldc 87, 2) := by decide +kernel
theorem dX11_isBridge_3 : decode cX11_isBridge 3 = .ok (.if_icmp .eq 17, 3) := by decide +kernel
theorem dX11_isBridge_6 : decode cX11_isBridge 6 = .ok (.aload_n 0, 1) := by decide +kernel
theorem dX11_isBridge_7 : decode cX11_isBridge 7 = .ok (.getfield 7, 3) := by decide +kernel
theorem dX11_isBridge_10 : decode cX11_isBridge 10 = .ok (.iload_n 1, 1) := by decide +kernel
theorem dX11_isBridge_11 : decode cX11_isBridge 11 = .ok (.iaload, 1) := by decide +kernel
theorem dX11_isBridge_12 : decode cX11_isBridge 12 = .ok (.iconst 2, 1) := by decide +kernel
theorem dX11_isBridge_13 : decode cX11_isBridge 13 = .ok (.if_icmp .ne 7, 3) := by decide +kernel
theorem dX11_isBridge_16 : decode cX11_isBridge 16 = .ok (.iconst 1, 1) := by decide +kernel
theorem dX11_isBridge_17 : decode cX11_isBridge 17 = .ok (.goto 4, 3) := by decide +kernel
theorem dX11_isBridge_20 : decode cX11_isBridge 20 = .ok (.iconst 0, 1) := by decide +kernel
theorem dX11_isBridge_21 : decode cX11_isBridge 21 = .ok (.ireturn, 1) := by decide +kernel
theorem dX11_copy_0 : decode cX11_copy 0 = .ok (.aload_n 0, 1) := by decide +kernel
theorem dX11_copy_1 : decode cX11_copy 1 = .ok (.iload_n 1, 1) := by decide +kernel
theorem dX11_copy_2 : decode cX11_copy 2 = .ok (.invokevirtual 88, 3) := by decide +kernel
theorem dX11_copy_5 : decode cX11_copy 5 = .ok (.ifCond .eq 11, 3) := by decide +kernel
theorem dX11_copy_8 : decode cX11_copy 8 = .ok (.aload_n 0, 1) := by decide +kernel
theorem dX11_copy_9 : decode cX11_copy 9 = .ok (.iload_n 3, 1) := by decide +kernel
theorem dX11_copy_10 : decode cX11_copy 10 = .ok (.invokevirtual 88, 3) := by decide +kernel
theorem dX11_copy_13 : decode cX11_copy 13 = .ok (.ifCond .ne 6, 3) := by decide +kernel
theorem dX11_copy_16 : decode cX11_copy 16 = .ok (.ldc 92, 2) := by decide +kernel
theorem dX11_copy_18 : decode cX11_copy 18 = .ok (.ireturn, 1) := by decide +kernel
theorem dX11_copy_19 : decode cX11_copy 19 = .ok (.iload_n 2, 1) := by decide +kernel
theorem dX11_copy_20 : decode cX11_copy 20 = .ok (.ifCond .lt 52, 3) := by decide +kernel
theorem dX11_copy_23 : decode cX11_copy 23 = .ok (.iload 4, 2) := by decide +kernel
theorem dX11_copy_25 : decode cX11_copy 25 = .ok (.ifCond .lt 47, 3) := by decide +kernel
theorem dX11_copy_28 : decode cX11_copy 28 = .ok (.iload 5, 2) := by decide +kernel
theorem dX11_copy_30 : decode cX11_copy 30 = .ok (.ifCond .lt 42, 3) := by decide +kernel
theorem dX11_copy_33 : decode cX11_copy 33 = .ok (.iload_n 2, 1) := by decide +kernel
theorem dX11_copy_34 : decode cX11_copy 34 = .ok (.bipush 6, 2) := by decide +kernel
theorem dX11_copy_36 : decode cX11_copy 36 = .ok (.if_icmp .gt 36, 3) := by decide +kernel
theorem dX11_copy_39 : decode cX11_copy 39 = .ok (.iload 4, 2) := by decide +kernel
theorem dX11_copy_41 : decode cX11_copy 41 = .ok (.bipush 6, 2) := by decide +kernel
theorem dX11_copy_43 : decode cX11_copy 43 = .ok (.if_icmp .gt 29, 3) := by decide +kernel
theorem dX11_copy_46 : decode cX11_copy 46 = .ok (.iload 5, 2) := by decide +kernel
theorem dX11_copy_48 : decode cX11_copy 48 = .ok (.bipush 6, 2) := by decide +kernel
theorem dX11_copy_50 : decode cX11_copy 50 = .ok (.if_icmp .gt 22, 3) := by decide +kernel
theorem dX11_copy_53 : decode cX11_copy 53 = .ok (.iload_n 2, 1) := by decide +kernel
theorem dX11_copy_54 : decode cX11_copy 54 = .ok (.iload 5, 2) := by decide +kernel
theorem dX11_copy_56 : decode cX11_copy 56 = .ok (.iadd, 1) := by decide +kernel
theorem dX11_copy_57 : decode cX11_copy 57 = .ok (.bipush 6, 2) := by decide +kernel
theorem dX11_copy_59 : decode cX11_copy 59 = .ok (.if_icmp .gt 13, 3) := by decide +kernel
theorem dX11_copy_62 : decode cX11_copy 62 = .ok (.iload 4, 2) := by decide +kernel
theorem dX11_copy_64 : decode cX11_copy 64 = .ok (.iload 5, 2) := by decide +kernel
theorem dX11_copy_66 : decode cX11_copy 66 = .ok (.iadd, 1) := by decide +kernel
theorem dX11_copy_67 : decode cX11_copy 67 = .ok (.bipush 6, 2) := by decide +kernel
theorem dX11_copy_69 : decode cX11_copy 69 = .ok (.if_icmp .le 6, 3) := by decide +kernel
theorem dX11_copy_72 : decode cX11_copy 72 = .ok (.ldc 93, 2) := by decide +kernel
theorem dX11_copy_74 : decode cX11_copy 74 = .ok (.ireturn, 1) := by decide +kernel
theorem dX11_copy_75 : decode cX11_copy 75 = .ok (.iconst 0, 1) := by decide +kernel
theorem dX11_copy_76 : decode cX11_copy 76 = .ok (.istore 6, 2) := by decide +kernel
theorem dX11_copy_78 : decode cX11_copy 78 = .ok (.iload 6, 2) := by decide +kernel
theorem dX11_copy_80 : decode cX11_copy 80 = .ok (.iload 5, 2) := by decide +kernel
theorem dX11_copy_82 : decode cX11_copy 82 = .ok (.if_icmp .ge 30, 3) := by decide +kernel
theorem dX11_copy_85 : decode cX11_copy 85 = .ok (.aload_n 0, 1) := by decide +kernel
theorem dX11_copy_86 : decode cX11_copy 86 = .ok (.getfield 32, 3) := by decide +kernel
theorem dX11_copy_89 : decode cX11_copy 89 = .ok (.iload 6, 2) := by decide +kernel
theorem dX11_copy_91 : decode cX11_copy 91 = .ok (.aload_n 0, 1) := by decide +kernel
theorem dX11_copy_92 : decode cX11_copy 92 = .ok (.getfield 22, 3) := by decide +kernel
theorem dX11_copy_95 : decode cX11_copy 95 = .ok (.bipush 6, 2) := by decide +kernel
theorem dX11_copy_97 : decode cX11_copy 97 = .ok (.iload_n 1, 1) := by decide +kernel
theorem dX11_copy_98 : decode cX11_copy 98 = .ok (.imul, 1) := by decide +kernel
theorem dX11_copy_99 : decode cX11_copy 99 = .ok (.iload_n 2, 1) := by decide +kernel
theorem dX11_copy_100 : decode cX11_copy 100 = .ok (.iadd, 1) := by decide +kernel
theorem dX11_copy_101 : decode cX11_copy 101 = .ok (.iload 6, 2) := by decide +kernel
theorem dX11_copy_103 : decode cX11_copy 103 = .ok (.iadd, 1) := by decide +kernel
theorem dX11_copy_104 : decode cX11_copy 104 = .ok (.iaload, 1) := by decide +kernel
theorem dX11_copy_105 : decode cX11_copy 105 = .ok (.iastore, 1) := by decide +kernel
theorem dX11_copy_106 : decode cX11_copy 106 = .ok (.iinc 6 1, 3) := by decide +kernel
theorem dX11_copy_109 : decode cX11_copy 109 = .ok (.goto (-31), 3) := by decide +kernel
theorem dX11_copy_112 : decode cX11_copy 112 = .ok (.iconst 0, 1) := by decide +kernel
theorem dX11_copy_113 : decode cX11_copy 113 = .ok (.istore 6, 2) := by decide +kernel
theorem dX11_copy_115 : decode cX11_copy 115 = .ok (.iload 6, 2) := by decide +kernel
theorem dX11_copy_117 : decode cX11_copy 117 = .ok (.iload 5, 2) := by decide +kernel
theorem dX11_copy_119 : decode cX11_copy 119 = .ok (.if_icmp .ge 58, 3) := by decide +kernel
theorem dX11_copy_122 : decode cX11_copy 122 = .ok (.aload_n 0, 1) := by decide +kernel
theorem dX11_copy_123 : decode cX11_copy 123 = .ok (.getfield 7, 3) := by decide +kernel
theorem dX11_copy_126 : decode cX11_copy 126 = .ok (.iload_n 3, 1) := by decide +kernel
theorem dX11_copy_127 : decode cX11_copy 127 = .ok (.iaload, 1) := by decide +kernel
theorem dX11_copy_128 : decode cX11_copy 128 = .ok (.iconst 4, 1) := by decide +kernel
theorem dX11_copy_129 : decode cX11_copy 129 = .ok (.if_icmp .ne 20, 3) := by decide +kernel
theorem dX11_copy_132 : decode cX11_copy 132 = .ok (.aload_n 0, 1) := by decide +kernel
theorem dX11_copy_133 : decode cX11_copy 133 = .ok (.aload_n 0, 1) := by decide +kernel
theorem dX11_copy_134 : decode cX11_copy 134 = .ok (.getfield 32, 3) := by decide +kernel
theorem dX11_copy_137 : decode cX11_copy 137 = .ok (.iload 6, 2) := by decide +kernel
theorem dX11_copy_139 : decode cX11_copy 139 = .ok (.iaload, 1) := by decide +kernel
theorem dX11_copy_140 : decode cX11_copy 140 = .ok (.invokevirtual 94, 3) := by decide +kernel
theorem dX11_copy_143 : decode cX11_copy 143 = .ok (.ifCond .eq 6, 3) := by decide +kernel
theorem dX11_copy_146 : decode cX11_copy 146 = .ok (.ldc 97, 2) := by decide +kernel
theorem dX11_copy_148 : decode cX11_copy 148 = .ok (.ireturn, 1) := by decide +kernel
theorem dX11_copy_149 : decode cX11_copy 149 = .ok (.aload_n 0, 1) := by decide +kernel
theorem dX11_copy_150 : decode cX11_copy 150 = .ok (.getfield 22, 3) := by decide +kernel
theorem dX11_copy_153 : decode cX11_copy 153 = .ok (.bipush 6, 2) := by decide +kernel
theorem dX11_copy_155 : decode cX11_copy 155 = .ok (.iload_n 3, 1) := by decide +kernel
theorem dX11_copy_156 : decode cX11_copy 156 = .ok (.imul, 1) := by decide +kernel
theorem dX11_copy_157 : decode cX11_copy 157 = .ok (.iload 4, 2) := by decide +kernel
theorem dX11_copy_159 : decode cX11_copy 159 = .ok (.iadd, 1) := by decide +kernel
theorem dX11_copy_160 : decode cX11_copy 160 = .ok (.iload 6, 2) := by decide +kernel
theorem dX11_copy_162 : decode cX11_copy 162 = .ok (.iadd, 1) := by decide +kernel
theorem dX11_copy_163 : decode cX11_copy 163 = .ok (.aload_n 0, 1) := by decide +kernel
theorem dX11_copy_164 : decode cX11_copy 164 = .ok (.getfield 32, 3) := by decide +kernel
theorem dX11_copy_167 : decode cX11_copy 167 = .ok (.iload 6, 2) := by decide +kernel
theorem dX11_copy_169 : decode cX11_copy 169 = .ok (.iaload, 1) := by decide +kernel
theorem dX11_copy_170 : decode cX11_copy 170 = .ok (.iastore, 1) := by decide +kernel
theorem dX11_copy_171 : decode cX11_copy 171 = .ok (.iinc 6 1, 3) := by decide +kernel
theorem dX11_copy_174 : decode cX11_copy 174 = .ok (.goto (-59), 3) := by decide +kernel
theorem dX11_copy_177 : decode cX11_copy 177 = .ok (.iconst 1, 1) := by decide +kernel
theorem dX11_copy_178 : decode cX11_copy 178 = .ok (.ireturn, 1) := by decide +kernel
theorem dX11_tellKey_0 : decode cX11_tellKey 0 = .ok (.aload_n 0, 1) := by decide +kernel
theorem dX11_tellKey_1 : decode cX11_tellKey 1 = .ok (.aload_n 0, 1) := by decide +kernel
theorem dX11_tellKey_2 : decode cX11_tellKey 2 = .ok (.getfield 13, 3) := by decide +kernel
theorem dX11_tellKey_5 : decode cX11_tellKey 5 = .ok (.iload_n 1, 1) := by decide +kernel
theorem dX11_tellKey_6 : decode cX11_tellKey 6 = .ok (.iaload, 1) := by decide +kernel
theorem dX11_tellKey_7 : decode cX11_tellKey 7 = .ok (.putfield 98, 3) := by decide +kernel
theorem dX11_tellKey_10 : decode cX11_tellKey 10 = .ok (.aload_n 0, 1) := by decide +kernel
theorem dX11_tellKey_11 : decode cX11_tellKey 11 = .ok (.getfield 7, 3) := by decide +kernel
theorem dX11_tellKey_14 : decode cX11_tellKey 14 = .ok (.iload_n 1, 1) := by decide +kernel
theorem dX11_tellKey_15 : decode cX11_tellKey 15 = .ok (.iaload, 1) := by decide +kernel
theorem dX11_tellKey_16 : decode cX11_tellKey 16 = .ok (.bipush 6, 2) := by decide +kernel
theorem dX11_tellKey_18 : decode cX11_tellKey 18 = .ok (.if_icmp .ne 16, 3) := by decide +kernel
theorem dX11_tellKey_21 : decode cX11_tellKey 21 = .ok (.aload_n 0, 1) := by decide +kernel
theorem dX11_tellKey_22 : decode cX11_tellKey 22 = .ok (.getfield 25, 3) := by decide +kernel
theorem dX11_tellKey_25 : decode cX11_tellKey 25 = .ok (.iload_n 1, 1) := by decide +kernel
theorem dX11_tellKey_26 : decode cX11_tellKey 26 = .ok (.baload, 1) := by decide +kernel
theorem dX11_tellKey_27 : decode cX11_tellKey 27 = .ok (.ifCond .ne 7, 3) := by decide +kernel
theorem dX11_tellKey_30 : decode cX11_tellKey 30 = .ok (.iconst 1, 1) := by decide +kernel
theorem dX11_tellKey_31 : decode cX11_tellKey 31 = .ok (.goto 4, 3) := by decide +kernel
theorem dX11_tellKey_34 : decode cX11_tellKey 34 = .ok (.iconst 0, 1) := by decide +kernel
theorem dX11_tellKey_35 : decode cX11_tellKey 35 = .ok (.ireturn, 1) := by decide +kernel
theorem dX11_tellValue_0 : decode cX11_tellValue 0 = .ok (.aload_n 0, 1) := by decide +kernel
theorem dX11_tellValue_1 : decode cX11_tellValue 1 = .ok (.getfield 16, 3) := by decide +kernel
theorem dX11_tellValue_4 : decode cX11_tellValue 4 = .ok (.iload_n 1, 1) := by decide +kernel
theorem dX11_tellValue_5 : decode cX11_tellValue 5 = .ok (.iaload, 1) := by decide +kernel
theorem dX11_tellValue_6 : decode cX11_tellValue 6 = .ok (.istore_n 2, 1) := by decide +kernel
theorem dX11_tellValue_7 : decode cX11_tellValue 7 = .ok (.aload_n 0, 1) := by decide +kernel
theorem dX11_tellValue_8 : decode cX11_tellValue 8 = .ok (.getfield 7, 3) := by decide +kernel
theorem dX11_tellValue_11 : decode cX11_tellValue 11 = .ok (.iload_n 1, 1) := by decide +kernel
theorem dX11_tellValue_12 : decode cX11_tellValue 12 = .ok (.iaload, 1) := by decide +kernel
theorem dX11_tellValue_13 : decode cX11_tellValue 13 = .ok (.iconst 3, 1) := by decide +kernel
theorem dX11_tellValue_14 : decode cX11_tellValue 14 = .ok (.if_icmp .ne 29, 3) := by decide +kernel
theorem dX11_tellValue_17 : decode cX11_tellValue 17 = .ok (.aload_n 0, 1) := by decide +kernel
theorem dX11_tellValue_18 : decode cX11_tellValue 18 = .ok (.iload_n 2, 1) := by decide +kernel
theorem dX11_tellValue_19 : decode cX11_tellValue 19 = .ok (.ifCond .ne 7, 3) := by decide +kernel
theorem dX11_tellValue_22 : decode cX11_tellValue 22 = .ok (.iconst 0, 1) := by decide +kernel
theorem dX11_tellValue_23 : decode cX11_tellValue 23 = .ok (.goto 7, 3) := by decide +kernel
theorem dX11_tellValue_26 : decode cX11_tellValue 26 = .ok (.bipush 100, 2) := by decide +kernel
theorem dX11_tellValue_28 : decode cX11_tellValue 28 = .ok (.iload_n 2, 1) := by decide +kernel
theorem dX11_tellValue_29 : decode cX11_tellValue 29 = .ok (.idiv, 1) := by decide +kernel
theorem dX11_tellValue_30 : decode cX11_tellValue 30 = .ok (.putfield 98, 3) := by decide +kernel
theorem dX11_tellValue_33 : decode cX11_tellValue 33 = .ok (.iload_n 2, 1) := by decide +kernel
theorem dX11_tellValue_34 : decode cX11_tellValue 34 = .ok (.ifCond .ne 7, 3) := by decide +kernel
theorem dX11_tellValue_37 : decode cX11_tellValue 37 = .ok (.iconst 4, 1) := by decide +kernel
theorem dX11_tellValue_38 : decode cX11_tellValue 38 = .ok (.goto 4, 3) := by decide +kernel
theorem dX11_tellValue_41 : decode cX11_tellValue 41 = .ok (.iconst 0, 1) := by decide +kernel
theorem dX11_tellValue_42 : decode cX11_tellValue 42 = .ok (.ireturn, 1) := by decide +kernel
theorem dX11_tellValue_43 : decode cX11_tellValue 43 = .ok (.aload_n 0, 1) := by decide +kernel
theorem dX11_tellValue_44 : decode cX11_tellValue 44 = .ok (.aload_n 0, 1) := by decide +kernel
theorem dX11_tellValue_45 : decode cX11_tellValue 45 = .ok (.getfield 7, 3) := by decide +kernel
theorem dX11_tellValue_48 : decode cX11_tellValue 48 = .ok (.iload_n 1, 1) := by decide +kernel
theorem dX11_tellValue_49 : decode cX11_tellValue 49 = .ok (.iaload, 1) := by decide +kernel
theorem dX11_tellValue_50 : decode cX11_tellValue 50 = .ok (.iconst 1, 1) := by decide +kernel
theorem dX11_tellValue_51 : decode cX11_tellValue 51 = .ok (.if_icmp .ne 9, 3) := by decide +kernel
theorem dX11_tellValue_54 : decode cX11_tellValue 54 = .ok (.iconst 2, 1) := by decide +kernel
theorem dX11_tellValue_55 : decode cX11_tellValue 55 = .ok (.iload_n 2, 1) := by decide +kernel
theorem dX11_tellValue_56 : decode cX11_tellValue 56 = .ok (.imul, 1) := by decide +kernel
theorem dX11_tellValue_57 : decode cX11_tellValue 57 = .ok (.goto 22, 3) := by decide +kernel
theorem dX11_tellValue_60 : decode cX11_tellValue 60 = .ok (.aload_n 0, 1) := by decide +kernel
theorem dX11_tellValue_61 : decode cX11_tellValue 61 = .ok (.getfield 7, 3) := by decide +kernel
theorem dX11_tellValue_64 : decode cX11_tellValue 64 = .ok (.iload_n 1, 1) := by decide +kernel
theorem dX11_tellValue_65 : decode cX11_tellValue 65 = .ok (.iaload, 1) := by decide +kernel
theorem dX11_tellValue_66 : decode cX11_tellValue 66 = .ok (.iconst 4, 1) := by decide +kernel
theorem dX11_tellValue_67 : decode cX11_tellValue 67 = .ok (.if_icmp .ne 11, 3) := by decide +kernel
theorem dX11_tellValue_70 : decode cX11_tellValue 70 = .ok (.iconst 2, 1) := by decide +kernel
theorem dX11_tellValue_71 : decode cX11_tellValue 71 = .ok (.iload_n 2, 1) := by decide +kernel
theorem dX11_tellValue_72 : decode cX11_tellValue 72 = .ok (.imul, 1) := by decide +kernel
theorem dX11_tellValue_73 : decode cX11_tellValue 73 = .ok (.iconst 1, 1) := by decide +kernel
theorem dX11_tellValue_74 : decode cX11_tellValue 74 = .ok (.iadd, 1) := by decide +kernel
theorem dX11_tellValue_75 : decode cX11_tellValue 75 = .ok (.goto 4, 3) := by decide +kernel
theorem dX11_tellValue_78 : decode cX11_tellValue 78 = .ok (.iload_n 2, 1) := by decide +kernel
theorem dX11_tellValue_79 : decode cX11_tellValue 79 = .ok (.putfield 98, 3) := by decide +kernel
theorem dX11_tellValue_82 : decode cX11_tellValue 82 = .ok (.iconst 0, 1) := by decide +kernel
theorem dX11_tellValue_83 : decode cX11_tellValue 83 = .ok (.ireturn, 1) := by decide +kernel
theorem dX11_tellLinks_0 : decode cX11_tellLinks 0 = .ok (.aload_n 0, 1) := by decide +kernel
theorem dX11_tellLinks_1 : decode cX11_tellLinks 1 = .ok (.iconst 0, 1) := by decide +kernel
theorem dX11_tellLinks_2 : decode cX11_tellLinks 2 = .ok (.putfield 101, 3) := by decide +kernel
theorem dX11_tellLinks_5 : decode cX11_tellLinks 5 = .ok (.aload_n 0, 1) := by decide +kernel
theorem dX11_tellLinks_6 : decode cX11_tellLinks 6 = .ok (.getfield 7, 3) := by decide +kernel
theorem dX11_tellLinks_9 : decode cX11_tellLinks 9 = .ok (.iload_n 1, 1) := by decide +kernel
theorem dX11_tellLinks_10 : decode cX11_tellLinks 10 = .ok (.iaload, 1) := by decide +kernel
theorem dX11_tellLinks_11 : decode cX11_tellLinks 11 = .ok (.istore_n 2, 1) := by decide +kernel
theorem dX11_tellLinks_12 : decode cX11_tellLinks 12 = .ok (.iload_n 2, 1) := by decide +kernel
theorem dX11_tellLinks_13 : decode cX11_tellLinks 13 = .ok (.iconst 5, 1) := by decide +kernel
theorem dX11_tellLinks_14 : decode cX11_tellLinks 14 = .ok (.if_icmp .ne 48, 3) := by decide +kernel
theorem dX11_tellLinks_17 : decode cX11_tellLinks 17 = .ok (.aload_n 0, 1) := by decide +kernel
theorem dX11_tellLinks_18 : decode cX11_tellLinks 18 = .ok (.getfield 16, 3) := by decide +kernel
theorem dX11_tellLinks_21 : decode cX11_tellLinks 21 = .ok (.iload_n 1, 1) := by decide +kernel
theorem dX11_tellLinks_22 : decode cX11_tellLinks 22 = .ok (.iaload, 1) := by decide +kernel
theorem dX11_tellLinks_23 : decode cX11_tellLinks 23 = .ok (.iconst 0, 1) := by decide +kernel
theorem dX11_tellLinks_24 : decode cX11_tellLinks 24 = .ok (.iconst 5, 1) := by decide +kernel
theorem dX11_tellLinks_25 : decode cX11_tellLinks 25 = .ok (.invokestatic 81, 3) := by decide +kernel
theorem dX11_tellLinks_28 : decode cX11_tellLinks 28 = .ok (.ifCond .ne 5, 3) := by decide +kernel
theorem dX11_tellLinks_31 : decode cX11_tellLinks 31 = .ok (.iconst 2, 1) := by decide +kernel
theorem dX11_tellLinks_32 : decode cX11_tellLinks 32 = .ok (.ireturn, 1) := by decide +kernel
theorem dX11_tellLinks_33 : decode cX11_tellLinks 33 = .ok (.aload_n 0, 1) := by decide +kernel
theorem dX11_tellLinks_34 : decode cX11_tellLinks 34 = .ok (.getfield 35, 3) := by decide +kernel
theorem dX11_tellLinks_37 : decode cX11_tellLinks 37 = .ok (.iconst 0, 1) := by decide +kernel
theorem dX11_tellLinks_38 : decode cX11_tellLinks 38 = .ok (.aload_n 0, 1) := by decide +kernel
theorem dX11_tellLinks_39 : decode cX11_tellLinks 39 = .ok (.getfield 22, 3) := by decide +kernel
theorem dX11_tellLinks_42 : decode cX11_tellLinks 42 = .ok (.bipush 6, 2) := by decide +kernel
theorem dX11_tellLinks_44 : decode cX11_tellLinks 44 = .ok (.iload_n 1, 1) := by decide +kernel
theorem dX11_tellLinks_45 : decode cX11_tellLinks 45 = .ok (.imul, 1) := by decide +kernel
theorem dX11_tellLinks_46 : decode cX11_tellLinks 46 = .ok (.aload_n 0, 1) := by decide +kernel
theorem dX11_tellLinks_47 : decode cX11_tellLinks 47 = .ok (.getfield 16, 3) := by decide +kernel
theorem dX11_tellLinks_50 : decode cX11_tellLinks 50 = .ok (.iload_n 1, 1) := by decide +kernel
theorem dX11_tellLinks_51 : decode cX11_tellLinks 51 = .ok (.iaload, 1) := by decide +kernel
theorem dX11_tellLinks_52 : decode cX11_tellLinks 52 = .ok (.iadd, 1) := by decide +kernel
theorem dX11_tellLinks_53 : decode cX11_tellLinks 53 = .ok (.iaload, 1) := by decide +kernel
theorem dX11_tellLinks_54 : decode cX11_tellLinks 54 = .ok (.iastore, 1) := by decide +kernel
theorem dX11_tellLinks_55 : decode cX11_tellLinks 55 = .ok (.aload_n 0, 1) := by decide +kernel
theorem dX11_tellLinks_56 : decode cX11_tellLinks 56 = .ok (.iconst 1, 1) := by decide +kernel
theorem dX11_tellLinks_57 : decode cX11_tellLinks 57 = .ok (.putfield 101, 3) := by decide +kernel
theorem dX11_tellLinks_60 : decode cX11_tellLinks 60 = .ok (.iconst 0, 1) := by decide +kernel
theorem dX11_tellLinks_61 : decode cX11_tellLinks 61 = .ok (.ireturn, 1) := by decide +kernel
theorem dX11_tellLinks_62 : decode cX11_tellLinks 62 = .ok (.iload_n 2, 1) := by decide +kernel
theorem dX11_tellLinks_63 : decode cX11_tellLinks 63 = .ok (.iconst 1, 1) := by decide +kernel
theorem dX11_tellLinks_64 : decode cX11_tellLinks 64 = .ok (.if_icmp .eq 8, 3) := by decide +kernel
theorem dX11_tellLinks_67 : decode cX11_tellLinks 67 = .ok (.iload_n 2, 1) := by decide +kernel
theorem dX11_tellLinks_68 : decode cX11_tellLinks 68 = .ok (.iconst 4, 1) := by decide +kernel
theorem dX11_tellLinks_69 : decode cX11_tellLinks 69 = .ok (.if_icmp .ne 73, 3) := by decide +kernel
theorem dX11_tellLinks_72 : decode cX11_tellLinks 72 = .ok (.iconst 0, 1) := by decide +kernel
theorem dX11_tellLinks_73 : decode cX11_tellLinks 73 = .ok (.istore_n 3, 1) := by decide +kernel
theorem dX11_tellLinks_74 : decode cX11_tellLinks 74 = .ok (.iconst 0, 1) := by decide +kernel
theorem dX11_tellLinks_75 : decode cX11_tellLinks 75 = .ok (.istore 4, 2) := by decide +kernel
theorem dX11_tellLinks_77 : decode cX11_tellLinks 77 = .ok (.iload 4, 2) := by decide +kernel
theorem dX11_tellLinks_79 : decode cX11_tellLinks 79 = .ok (.bipush 6, 2) := by decide +kernel
theorem dX11_tellLinks_81 : decode cX11_tellLinks 81 = .ok (.if_icmp .ge 53, 3) := by decide +kernel
theorem dX11_tellLinks_84 : decode cX11_tellLinks 84 = .ok (.aload_n 0, 1) := by decide +kernel
theorem dX11_tellLinks_85 : decode cX11_tellLinks 85 = .ok (.getfield 35, 3) := by decide +kernel
theorem dX11_tellLinks_88 : decode cX11_tellLinks 88 = .ok (.iload 4, 2) := by decide +kernel
theorem dX11_tellLinks_90 : decode cX11_tellLinks 90 = .ok (.aload_n 0, 1) := by decide +kernel
theorem dX11_tellLinks_91 : decode cX11_tellLinks 91 = .ok (.getfield 22, 3) := by decide +kernel
theorem dX11_tellLinks_94 : decode cX11_tellLinks 94 = .ok (.bipush 6, 2) := by decide +kernel
theorem dX11_tellLinks_96 : decode cX11_tellLinks 96 = .ok (.iload_n 1, 1) := by decide +kernel
theorem dX11_tellLinks_97 : decode cX11_tellLinks 97 = .ok (.imul, 1) := by decide +kernel
theorem dX11_tellLinks_98 : decode cX11_tellLinks 98 = .ok (.iload 4, 2) := by decide +kernel
theorem dX11_tellLinks_100 : decode cX11_tellLinks 100 = .ok (.iadd, 1) := by decide +kernel
theorem dX11_tellLinks_101 : decode cX11_tellLinks 101 = .ok (.iaload, 1) := by decide +kernel
theorem dX11_tellLinks_102 : decode cX11_tellLinks 102 = .ok (.iastore, 1) := by decide +kernel
theorem dX11_tellLinks_103 : decode cX11_tellLinks 103 = .ok (.iload_n 2, 1) := by decide +kernel
theorem dX11_tellLinks_104 : decode cX11_tellLinks 104 = .ok (.iconst 4, 1) := by decide +kernel
theorem dX11_tellLinks_105 : decode cX11_tellLinks 105 = .ok (.if_icmp .ne 21, 3) := by decide +kernel
theorem dX11_tellLinks_108 : decode cX11_tellLinks 108 = .ok (.aload_n 0, 1) := by decide +kernel
theorem dX11_tellLinks_109 : decode cX11_tellLinks 109 = .ok (.aload_n 0, 1) := by decide +kernel
theorem dX11_tellLinks_110 : decode cX11_tellLinks 110 = .ok (.getfield 35, 3) := by decide +kernel
theorem dX11_tellLinks_113 : decode cX11_tellLinks 113 = .ok (.iload 4, 2) := by decide +kernel
theorem dX11_tellLinks_115 : decode cX11_tellLinks 115 = .ok (.iaload, 1) := by decide +kernel
theorem dX11_tellLinks_116 : decode cX11_tellLinks 116 = .ok (.invokevirtual 94, 3) := by decide +kernel
theorem dX11_tellLinks_119 : decode cX11_tellLinks 119 = .ok (.ifCond .eq 7, 3) := by decide +kernel
theorem dX11_tellLinks_122 : decode cX11_tellLinks 122 = .ok (.iconst 3, 1) := by decide +kernel
theorem dX11_tellLinks_123 : decode cX11_tellLinks 123 = .ok (.goto 4, 3) := by decide +kernel
theorem dX11_tellLinks_126 : decode cX11_tellLinks 126 = .ok (.iload_n 3, 1) := by decide +kernel
theorem dX11_tellLinks_127 : decode cX11_tellLinks 127 = .ok (.istore_n 3, 1) := by decide +kernel
theorem dX11_tellLinks_128 : decode cX11_tellLinks 128 = .ok (.iinc 4 1, 3) := by decide +kernel
theorem dX11_tellLinks_131 : decode cX11_tellLinks 131 = .ok (.goto (-54), 3) := by decide +kernel
theorem dX11_tellLinks_134 : decode cX11_tellLinks 134 = .ok (.aload_n 0, 1) := by decide +kernel
theorem dX11_tellLinks_135 : decode cX11_tellLinks 135 = .ok (.bipush 6, 2) := by decide +kernel
theorem dX11_tellLinks_137 : decode cX11_tellLinks 137 = .ok (.putfield 101, 3) := by decide +kernel
theorem dX11_tellLinks_140 : decode cX11_tellLinks 140 = .ok (.iload_n 3, 1) := by decide +kernel
theorem dX11_tellLinks_141 : decode cX11_tellLinks 141 = .ok (.ireturn, 1) := by decide +kernel
theorem dX11_tellLinks_142 : decode cX11_tellLinks 142 = .ok (.aload_n 0, 1) := by decide +kernel
theorem dX11_tellLinks_143 : decode cX11_tellLinks 143 = .ok (.getfield 19, 3) := by decide +kernel
theorem dX11_tellLinks_146 : decode cX11_tellLinks 146 = .ok (.iload_n 1, 1) := by decide +kernel
theorem dX11_tellLinks_147 : decode cX11_tellLinks 147 = .ok (.iaload, 1) := by decide +kernel
theorem dX11_tellLinks_148 : decode cX11_tellLinks 148 = .ok (.ldc 87, 2) := by decide +kernel
theorem dX11_tellLinks_150 : decode cX11_tellLinks 150 = .ok (.if_icmp .ne 5, 3) := by decide +kernel
theorem dX11_tellLinks_153 : decode cX11_tellLinks 153 = .ok (.iconst 0, 1) := by decide +kernel
theorem dX11_tellLinks_154 : decode cX11_tellLinks 154 = .ok (.ireturn, 1) := by decide +kernel
theorem dX11_tellLinks_155 : decode cX11_tellLinks 155 = .ok (.aload_n 0, 1) := by decide +kernel
theorem dX11_tellLinks_156 : decode cX11_tellLinks 156 = .ok (.getfield 35, 3) := by decide +kernel
theorem dX11_tellLinks_159 : decode cX11_tellLinks 159 = .ok (.iconst 0, 1) := by decide +kernel
theorem dX11_tellLinks_160 : decode cX11_tellLinks 160 = .ok (.aload_n 0, 1) := by decide +kernel
theorem dX11_tellLinks_161 : decode cX11_tellLinks 161 = .ok (.getfield 19, 3) := by decide +kernel
theorem dX11_tellLinks_164 : decode cX11_tellLinks 164 = .ok (.iload_n 1, 1) := by decide +kernel
theorem dX11_tellLinks_165 : decode cX11_tellLinks 165 = .ok (.iaload, 1) := by decide +kernel
theorem dX11_tellLinks_166 : decode cX11_tellLinks 166 = .ok (.iastore, 1) := by decide +kernel
theorem dX11_tellLinks_167 : decode cX11_tellLinks 167 = .ok (.aload_n 0, 1) := by decide +kernel
theorem dX11_tellLinks_168 : decode cX11_tellLinks 168 = .ok (.iconst 1, 1) := by decide +kernel
theorem dX11_tellLinks_169 : decode cX11_tellLinks 169 = .ok (.putfield 101, 3) := by decide +kernel
theorem dX11_tellLinks_172 : decode cX11_tellLinks 172 = .ok (.aload_n 0, 1) := by decide +kernel
theorem dX11_tellLinks_173 : decode cX11_tellLinks 173 = .ok (.aload_n 0, 1) := by decide +kernel
theorem dX11_tellLinks_174 : decode cX11_tellLinks 174 = .ok (.getfield 19, 3) := by decide +kernel
theorem dX11_tellLinks_177 : decode cX11_tellLinks 177 = .ok (.iload_n 1, 1) := by decide +kernel
theorem dX11_tellLinks_178 : decode cX11_tellLinks 178 = .ok (.iaload, 1) := by decide +kernel
theorem dX11_tellLinks_179 : decode cX11_tellLinks 179 = .ok (.invokevirtual 94, 3) := by decide +kernel
theorem dX11_tellLinks_182 : decode cX11_tellLinks 182 = .ok (.ifCond .eq 7, 3) := by decide +kernel
theorem dX11_tellLinks_185 : decode cX11_tellLinks 185 = .ok (.iconst 3, 1) := by decide +kernel
theorem dX11_tellLinks_186 : decode cX11_tellLinks 186 = .ok (.goto 4, 3) := by decide +kernel
theorem dX11_tellLinks_189 : decode cX11_tellLinks 189 = .ok (.iconst 0, 1) := by decide +kernel
theorem dX11_tellLinks_190 : decode cX11_tellLinks 190 = .ok (.ireturn, 1) := by decide +kernel
theorem dX11_tellEnd_0 : decode cX11_tellEnd 0 = .ok (.aload_n 0, 1) := by decide +kernel
theorem dX11_tellEnd_1 : decode cX11_tellEnd 1 = .ok (.aload_n 0, 1) := by decide +kernel
theorem dX11_tellEnd_2 : decode cX11_tellEnd 2 = .ok (.getfield 22, 3) := by decide +kernel
theorem dX11_tellEnd_5 : decode cX11_tellEnd 5 = .ok (.bipush 6, 2) := by decide +kernel
theorem dX11_tellEnd_7 : decode cX11_tellEnd 7 = .ok (.iload_n 1, 1) := by decide +kernel
theorem dX11_tellEnd_8 : decode cX11_tellEnd 8 = .ok (.imul, 1) := by decide +kernel
theorem dX11_tellEnd_9 : decode cX11_tellEnd 9 = .ok (.iaload, 1) := by decide +kernel
theorem dX11_tellEnd_10 : decode cX11_tellEnd 10 = .ok (.iload_n 2, 1) := by decide +kernel
theorem dX11_tellEnd_11 : decode cX11_tellEnd 11 = .ok (.if_icmp .ne 17, 3) := by decide +kernel
theorem dX11_tellEnd_14 : decode cX11_tellEnd 14 = .ok (.aload_n 0, 1) := by decide +kernel
theorem dX11_tellEnd_15 : decode cX11_tellEnd 15 = .ok (.getfield 22, 3) := by decide +kernel
theorem dX11_tellEnd_18 : decode cX11_tellEnd 18 = .ok (.bipush 6, 2) := by decide +kernel
theorem dX11_tellEnd_20 : decode cX11_tellEnd 20 = .ok (.iload_n 1, 1) := by decide +kernel
theorem dX11_tellEnd_21 : decode cX11_tellEnd 21 = .ok (.imul, 1) := by decide +kernel
theorem dX11_tellEnd_22 : decode cX11_tellEnd 22 = .ok (.iconst 1, 1) := by decide +kernel
theorem dX11_tellEnd_23 : decode cX11_tellEnd 23 = .ok (.iadd, 1) := by decide +kernel
theorem dX11_tellEnd_24 : decode cX11_tellEnd 24 = .ok (.iaload, 1) := by decide +kernel
theorem dX11_tellEnd_25 : decode cX11_tellEnd 25 = .ok (.goto 12, 3) := by decide +kernel
theorem dX11_tellEnd_28 : decode cX11_tellEnd 28 = .ok (.aload_n 0, 1) := by decide +kernel
theorem dX11_tellEnd_29 : decode cX11_tellEnd 29 = .ok (.getfield 22, 3) := by decide +kernel
theorem dX11_tellEnd_32 : decode cX11_tellEnd 32 = .ok (.bipush 6, 2) := by decide +kernel
theorem dX11_tellEnd_34 : decode cX11_tellEnd 34 = .ok (.iload_n 1, 1) := by decide +kernel
theorem dX11_tellEnd_35 : decode cX11_tellEnd 35 = .ok (.imul, 1) := by decide +kernel
theorem dX11_tellEnd_36 : decode cX11_tellEnd 36 = .ok (.iaload, 1) := by decide +kernel
theorem dX11_tellEnd_37 : decode cX11_tellEnd 37 = .ok (.putfield 98, 3) := by decide +kernel
theorem dX11_tellEnd_40 : decode cX11_tellEnd 40 = .ok (.aload_n 0, 1) := by decide +kernel
theorem dX11_tellEnd_41 : decode cX11_tellEnd 41 = .ok (.getfield 98, 3) := by decide +kernel
theorem dX11_tellEnd_44 : decode cX11_tellEnd 44 = .ok (.ldc 87, 2) := by decide +kernel
theorem dX11_tellEnd_46 : decode cX11_tellEnd 46 = .ok (.if_icmp .ne 7, 3) := by decide +kernel
theorem dX11_tellEnd_49 : decode cX11_tellEnd 49 = .ok (.iconst 1, 1) := by decide +kernel
theorem dX11_tellEnd_50 : decode cX11_tellEnd 50 = .ok (.goto 19, 3) := by decide +kernel
theorem dX11_tellEnd_53 : decode cX11_tellEnd 53 = .ok (.aload_n 0, 1) := by decide +kernel
theorem dX11_tellEnd_54 : decode cX11_tellEnd 54 = .ok (.aload_n 0, 1) := by decide +kernel
theorem dX11_tellEnd_55 : decode cX11_tellEnd 55 = .ok (.getfield 98, 3) := by decide +kernel
theorem dX11_tellEnd_58 : decode cX11_tellEnd 58 = .ok (.invokevirtual 94, 3) := by decide +kernel
theorem dX11_tellEnd_61 : decode cX11_tellEnd 61 = .ok (.ifCond .eq 7, 3) := by decide +kernel
theorem dX11_tellEnd_64 : decode cX11_tellEnd 64 = .ok (.iconst 3, 1) := by decide +kernel
theorem dX11_tellEnd_65 : decode cX11_tellEnd 65 = .ok (.goto 4, 3) := by decide +kernel
theorem dX11_tellEnd_68 : decode cX11_tellEnd 68 = .ok (.iconst 0, 1) := by decide +kernel
theorem dX11_tellEnd_69 : decode cX11_tellEnd 69 = .ok (.ireturn, 1) := by decide +kernel
theorem dX11_refuse_0 : decode cX11_refuse 0 = .ok (.aload_n 0, 1) := by decide +kernel
theorem dX11_refuse_1 : decode cX11_refuse 1 = .ok (.iload_n 1, 1) := by decide +kernel
theorem dX11_refuse_2 : decode cX11_refuse 2 = .ok (.putfield 104, 3) := by decide +kernel
theorem dX11_refuse_5 : decode cX11_refuse 5 = .ok (.aload_n 0, 1) := by decide +kernel
theorem dX11_refuse_6 : decode cX11_refuse 6 = .ok (.iload_n 2, 1) := by decide +kernel
theorem dX11_refuse_7 : decode cX11_refuse 7 = .ok (.putfield 107, 3) := by decide +kernel
theorem dX11_refuse_10 : decode cX11_refuse 10 = .ok (.aload_n 0, 1) := by decide +kernel
theorem dX11_refuse_11 : decode cX11_refuse 11 = .ok (.iload_n 3, 1) := by decide +kernel
theorem dX11_refuse_12 : decode cX11_refuse 12 = .ok (.putfield 110, 3) := by decide +kernel
theorem dX11_refuse_15 : decode cX11_refuse 15 = .ok (.aload_n 0, 1) := by decide +kernel
theorem dX11_refuse_16 : decode cX11_refuse 16 = .ok (.dup, 1) := by decide +kernel
theorem dX11_refuse_17 : decode cX11_refuse 17 = .ok (.getfield 113, 3) := by decide +kernel
theorem dX11_refuse_20 : decode cX11_refuse 20 = .ok (.iconst 1, 1) := by decide +kernel
theorem dX11_refuse_21 : decode cX11_refuse 21 = .ok (.iadd, 1) := by decide +kernel
theorem dX11_refuse_22 : decode cX11_refuse 22 = .ok (.putfield 113, 3) := by decide +kernel
theorem dX11_refuse_25 : decode cX11_refuse 25 = .ok (.ldc 116, 2) := by decide +kernel
theorem dX11_refuse_27 : decode cX11_refuse 27 = .ok (.iload_n 3, 1) := by decide +kernel
theorem dX11_refuse_28 : decode cX11_refuse 28 = .ok (.isub, 1) := by decide +kernel
theorem dX11_refuse_29 : decode cX11_refuse 29 = .ok (.ireturn, 1) := by decide +kernel
theorem dX11_found_0 : decode cX11_found 0 = .ok (.aload_n 0, 1) := by decide +kernel
theorem dX11_found_1 : decode cX11_found 1 = .ok (.getfield 44, 3) := by decide +kernel
theorem dX11_found_4 : decode cX11_found 4 = .ok (.bipush 40, 2) := by decide +kernel
theorem dX11_found_6 : decode cX11_found 6 = .ok (.iload_n 1, 1) := by decide +kernel
theorem dX11_found_7 : decode cX11_found 7 = .ok (.imul, 1) := by decide +kernel
theorem dX11_found_8 : decode cX11_found 8 = .ok (.iload_n 2, 1) := by decide +kernel
theorem dX11_found_9 : decode cX11_found 9 = .ok (.iadd, 1) := by decide +kernel
theorem dX11_found_10 : decode cX11_found 10 = .ok (.iaload, 1) := by decide +kernel
theorem dX11_found_11 : decode cX11_found 11 = .ok (.ifCond .ge 47, 3) := by decide +kernel
theorem dX11_found_14 : decode cX11_found 14 = .ok (.aload_n 0, 1) := by decide +kernel
theorem dX11_found_15 : decode cX11_found 15 = .ok (.getfield 44, 3) := by decide +kernel
theorem dX11_found_18 : decode cX11_found 18 = .ok (.bipush 40, 2) := by decide +kernel
theorem dX11_found_20 : decode cX11_found 20 = .ok (.iload_n 1, 1) := by decide +kernel
theorem dX11_found_21 : decode cX11_found 21 = .ok (.imul, 1) := by decide +kernel
theorem dX11_found_22 : decode cX11_found 22 = .ok (.iload_n 2, 1) := by decide +kernel
theorem dX11_found_23 : decode cX11_found 23 = .ok (.iadd, 1) := by decide +kernel
theorem dX11_found_24 : decode cX11_found 24 = .ok (.aload_n 0, 1) := by decide +kernel
theorem dX11_found_25 : decode cX11_found 25 = .ok (.getfield 38, 3) := by decide +kernel
theorem dX11_found_28 : decode cX11_found 28 = .ok (.iload_n 1, 1) := by decide +kernel
theorem dX11_found_29 : decode cX11_found 29 = .ok (.iaload, 1) := by decide +kernel
theorem dX11_found_30 : decode cX11_found 30 = .ok (.iastore, 1) := by decide +kernel
theorem dX11_found_31 : decode cX11_found 31 = .ok (.aload_n 0, 1) := by decide +kernel
theorem dX11_found_32 : decode cX11_found 32 = .ok (.getfield 41, 3) := by decide +kernel
theorem dX11_found_35 : decode cX11_found 35 = .ok (.bipush 40, 2) := by decide +kernel
theorem dX11_found_37 : decode cX11_found 37 = .ok (.iload_n 1, 1) := by decide +kernel
theorem dX11_found_38 : decode cX11_found 38 = .ok (.imul, 1) := by decide +kernel
theorem dX11_found_39 : decode cX11_found 39 = .ok (.aload_n 0, 1) := by decide +kernel
theorem dX11_found_40 : decode cX11_found 40 = .ok (.getfield 38, 3) := by decide +kernel
theorem dX11_found_43 : decode cX11_found 43 = .ok (.iload_n 1, 1) := by decide +kernel
theorem dX11_found_44 : decode cX11_found 44 = .ok (.iaload, 1) := by decide +kernel
theorem dX11_found_45 : decode cX11_found 45 = .ok (.iadd, 1) := by decide +kernel
theorem dX11_found_46 : decode cX11_found 46 = .ok (.iload_n 2, 1) := by decide +kernel
theorem dX11_found_47 : decode cX11_found 47 = .ok (.iastore, 1) := by decide +kernel
theorem dX11_found_48 : decode cX11_found 48 = .ok (.aload_n 0, 1) := by decide +kernel
theorem dX11_found_49 : decode cX11_found 49 = .ok (.getfield 38, 3) := by decide +kernel
theorem dX11_found_52 : decode cX11_found 52 = .ok (.iload_n 1, 1) := by decide +kernel
theorem dX11_found_53 : decode cX11_found 53 = .ok (.dup2, 1) := by decide +kernel
theorem dX11_found_54 : decode cX11_found 54 = .ok (.iaload, 1) := by decide +kernel
theorem dX11_found_55 : decode cX11_found 55 = .ok (.iconst 1, 1) := by decide +kernel
theorem dX11_found_56 : decode cX11_found 56 = .ok (.iadd, 1) := by decide +kernel
theorem dX11_found_57 : decode cX11_found 57 = .ok (.iastore, 1) := by decide +kernel
theorem dX11_found_58 : decode cX11_found 58 = .ok (.aload_n 0, 1) := by decide +kernel
theorem dX11_found_59 : decode cX11_found 59 = .ok (.getfield 44, 3) := by decide +kernel
theorem dX11_found_62 : decode cX11_found 62 = .ok (.bipush 40, 2) := by decide +kernel
theorem dX11_found_64 : decode cX11_found 64 = .ok (.iload_n 1, 1) := by decide +kernel
theorem dX11_found_65 : decode cX11_found 65 = .ok (.imul, 1) := by decide +kernel
theorem dX11_found_66 : decode cX11_found 66 = .ok (.iload_n 2, 1) := by decide +kernel
theorem dX11_found_67 : decode cX11_found 67 = .ok (.iadd, 1) := by decide +kernel
theorem dX11_found_68 : decode cX11_found 68 = .ok (.iaload, 1) := by decide +kernel
theorem dX11_found_69 : decode cX11_found 69 = .ok (.ireturn, 1) := by decide +kernel
theorem dX11_ask_0 : decode cX11_ask 0 = .ok (.aload_n 0, 1) := by decide +kernel
theorem dX11_ask_1 : decode cX11_ask 1 = .ok (.getfield 41, 3) := by decide +kernel
theorem dX11_ask_4 : decode cX11_ask 4 = .ok (.bipush 40, 2) := by decide +kernel
theorem dX11_ask_6 : decode cX11_ask 6 = .ok (.iload_n 1, 1) := by decide +kernel
theorem dX11_ask_7 : decode cX11_ask 7 = .ok (.imul, 1) := by decide +kernel
theorem dX11_ask_8 : decode cX11_ask 8 = .ok (.iload_n 2, 1) := by decide +kernel
theorem dX11_ask_9 : decode cX11_ask 9 = .ok (.iadd, 1) := by decide +kernel
theorem dX11_ask_10 : decode cX11_ask 10 = .ok (.iaload, 1) := by decide +kernel
theorem dX11_ask_11 : decode cX11_ask 11 = .ok (.istore 4, 2) := by decide +kernel
theorem dX11_ask_13 : decode cX11_ask 13 = .ok (.iload_n 3, 1) := by decide +kernel
theorem dX11_ask_14 : decode cX11_ask 14 = .ok (.ifCond .eq 98, 3) := by decide +kernel
theorem dX11_ask_17 : decode cX11_ask 17 = .ok (.aload_n 0, 1) := by decide +kernel
theorem dX11_ask_18 : decode cX11_ask 18 = .ok (.getfield 29, 3) := by decide +kernel
theorem dX11_ask_21 : decode cX11_ask 21 = .ok (.iload 4, 2) := by decide +kernel
theorem dX11_ask_23 : decode cX11_ask 23 = .ok (.dup2, 1) := by decide +kernel
theorem dX11_ask_24 : decode cX11_ask 24 = .ok (.iaload, 1) := by decide +kernel
theorem dX11_ask_25 : decode cX11_ask 25 = .ok (.iconst 1, 1) := by decide +kernel
theorem dX11_ask_26 : decode cX11_ask 26 = .ok (.iadd, 1) := by decide +kernel
theorem dX11_ask_27 : decode cX11_ask 27 = .ok (.iastore, 1) := by decide +kernel
theorem dX11_ask_28 : decode cX11_ask 28 = .ok (.aload_n 0, 1) := by decide +kernel
theorem dX11_ask_29 : decode cX11_ask 29 = .ok (.iload 4, 2) := by decide +kernel
theorem dX11_ask_31 : decode cX11_ask 31 = .ok (.invokevirtual 117, 3) := by decide +kernel
theorem dX11_ask_34 : decode cX11_ask 34 = .ok (.istore 5, 2) := by decide +kernel
theorem dX11_ask_36 : decode cX11_ask 36 = .ok (.iload 5, 2) := by decide +kernel
theorem dX11_ask_38 : decode cX11_ask 38 = .ok (.ifCond .le 14, 3) := by decide +kernel
theorem dX11_ask_41 : decode cX11_ask 41 = .ok (.aload_n 0, 1) := by decide +kernel
theorem dX11_ask_42 : decode cX11_ask 42 = .ok (.iload 4, 2) := by decide +kernel
theorem dX11_ask_44 : decode cX11_ask 44 = .ok (.ldc 87, 2) := by decide +kernel
theorem dX11_ask_46 : decode cX11_ask 46 = .ok (.iload 5, 2) := by decide +kernel
theorem dX11_ask_48 : decode cX11_ask 48 = .ok (.invokevirtual 121, 3) := by decide +kernel
theorem dX11_ask_51 : decode cX11_ask 51 = .ok (.ireturn, 1) := by decide +kernel
theorem dX11_ask_52 : decode cX11_ask 52 = .ok (.aload_n 0, 1) := by decide +kernel
theorem dX11_ask_53 : decode cX11_ask 53 = .ok (.getfield 68, 3) := by decide +kernel
theorem dX11_ask_56 : decode cX11_ask 56 = .ok (.iload_n 2, 1) := by decide +kernel
theorem dX11_ask_57 : decode cX11_ask 57 = .ok (.aload_n 0, 1) := by decide +kernel
theorem dX11_ask_58 : decode cX11_ask 58 = .ok (.getfield 98, 3) := by decide +kernel
theorem dX11_ask_61 : decode cX11_ask 61 = .ok (.iastore, 1) := by decide +kernel
theorem dX11_ask_62 : decode cX11_ask 62 = .ok (.iconst 0, 1) := by decide +kernel
theorem dX11_ask_63 : decode cX11_ask 63 = .ok (.istore 6, 2) := by decide +kernel
theorem dX11_ask_65 : decode cX11_ask 65 = .ok (.iload 6, 2) := by decide +kernel
theorem dX11_ask_67 : decode cX11_ask 67 = .ok (.iload_n 2, 1) := by decide +kernel
theorem dX11_ask_68 : decode cX11_ask 68 = .ok (.if_icmp .ge 44, 3) := by decide +kernel
theorem dX11_ask_71 : decode cX11_ask 71 = .ok (.aload_n 0, 1) := by decide +kernel
theorem dX11_ask_72 : decode cX11_ask 72 = .ok (.getfield 68, 3) := by decide +kernel
theorem dX11_ask_75 : decode cX11_ask 75 = .ok (.iload 6, 2) := by decide +kernel
theorem dX11_ask_77 : decode cX11_ask 77 = .ok (.iaload, 1) := by decide +kernel
theorem dX11_ask_78 : decode cX11_ask 78 = .ok (.aload_n 0, 1) := by decide +kernel
theorem dX11_ask_79 : decode cX11_ask 79 = .ok (.getfield 98, 3) := by decide +kernel
theorem dX11_ask_82 : decode cX11_ask 82 = .ok (.if_icmp .ne 24, 3) := by decide +kernel
theorem dX11_ask_85 : decode cX11_ask 85 = .ok (.aload_n 0, 1) := by decide +kernel
theorem dX11_ask_86 : decode cX11_ask 86 = .ok (.iload 4, 2) := by decide +kernel
theorem dX11_ask_88 : decode cX11_ask 88 = .ok (.aload_n 0, 1) := by decide +kernel
theorem dX11_ask_89 : decode cX11_ask 89 = .ok (.getfield 41, 3) := by decide +kernel
theorem dX11_ask_92 : decode cX11_ask 92 = .ok (.bipush 40, 2) := by decide +kernel
theorem dX11_ask_94 : decode cX11_ask 94 = .ok (.iload_n 1, 1) := by decide +kernel
theorem dX11_ask_95 : decode cX11_ask 95 = .ok (.imul, 1) := by decide +kernel
theorem dX11_ask_96 : decode cX11_ask 96 = .ok (.iload 6, 2) := by decide +kernel
theorem dX11_ask_98 : decode cX11_ask 98 = .ok (.iadd, 1) := by decide +kernel
theorem dX11_ask_99 : decode cX11_ask 99 = .ok (.iaload, 1) := by decide +kernel
theorem dX11_ask_100 : decode cX11_ask 100 = .ok (.bipush 6, 2) := by decide +kernel
theorem dX11_ask_102 : decode cX11_ask 102 = .ok (.invokevirtual 121, 3) := by decide +kernel
theorem dX11_ask_105 : decode cX11_ask 105 = .ok (.ireturn, 1) := by decide +kernel
theorem dX11_ask_106 : decode cX11_ask 106 = .ok (.iinc 6 1, 3) := by decide +kernel
theorem dX11_ask_109 : decode cX11_ask 109 = .ok (.goto (-44), 3) := by decide +kernel
theorem dX11_ask_112 : decode cX11_ask 112 = .ok (.aload_n 0, 1) := by decide +kernel
theorem dX11_ask_113 : decode cX11_ask 113 = .ok (.getfield 29, 3) := by decide +kernel
theorem dX11_ask_116 : decode cX11_ask 116 = .ok (.iload 4, 2) := by decide +kernel
theorem dX11_ask_118 : decode cX11_ask 118 = .ok (.dup2, 1) := by decide +kernel
theorem dX11_ask_119 : decode cX11_ask 119 = .ok (.iaload, 1) := by decide +kernel
theorem dX11_ask_120 : decode cX11_ask 120 = .ok (.iconst 1, 1) := by decide +kernel
theorem dX11_ask_121 : decode cX11_ask 121 = .ok (.iadd, 1) := by decide +kernel
theorem dX11_ask_122 : decode cX11_ask 122 = .ok (.iastore, 1) := by decide +kernel
theorem dX11_ask_123 : decode cX11_ask 123 = .ok (.aload_n 0, 1) := by decide +kernel
theorem dX11_ask_124 : decode cX11_ask 124 = .ok (.iload 4, 2) := by decide +kernel
theorem dX11_ask_126 : decode cX11_ask 126 = .ok (.invokevirtual 125, 3) := by decide +kernel
theorem dX11_ask_129 : decode cX11_ask 129 = .ok (.istore 5, 2) := by decide +kernel
theorem dX11_ask_131 : decode cX11_ask 131 = .ok (.iload 5, 2) := by decide +kernel
theorem dX11_ask_133 : decode cX11_ask 133 = .ok (.ifCond .le 14, 3) := by decide +kernel
theorem dX11_ask_136 : decode cX11_ask 136 = .ok (.aload_n 0, 1) := by decide +kernel
theorem dX11_ask_137 : decode cX11_ask 137 = .ok (.iload 4, 2) := by decide +kernel
theorem dX11_ask_139 : decode cX11_ask 139 = .ok (.ldc 87, 2) := by decide +kernel
theorem dX11_ask_141 : decode cX11_ask 141 = .ok (.iload 5, 2) := by decide +kernel
theorem dX11_ask_143 : decode cX11_ask 143 = .ok (.invokevirtual 121, 3) := by decide +kernel
theorem dX11_ask_146 : decode cX11_ask 146 = .ok (.ireturn, 1) := by decide +kernel
theorem dX11_ask_147 : decode cX11_ask 147 = .ok (.aload_n 0, 1) := by decide +kernel
theorem dX11_ask_148 : decode cX11_ask 148 = .ok (.getfield 47, 3) := by decide +kernel
theorem dX11_ask_151 : decode cX11_ask 151 = .ok (.bipush 40, 2) := by decide +kernel
theorem dX11_ask_153 : decode cX11_ask 153 = .ok (.iload_n 1, 1) := by decide +kernel
theorem dX11_ask_154 : decode cX11_ask 154 = .ok (.imul, 1) := by decide +kernel
theorem dX11_ask_155 : decode cX11_ask 155 = .ok (.iload_n 2, 1) := by decide +kernel
theorem dX11_ask_156 : decode cX11_ask 156 = .ok (.iadd, 1) := by decide +kernel
theorem dX11_ask_157 : decode cX11_ask 157 = .ok (.aload_n 0, 1) := by decide +kernel
theorem dX11_ask_158 : decode cX11_ask 158 = .ok (.getfield 98, 3) := by decide +kernel
theorem dX11_ask_161 : decode cX11_ask 161 = .ok (.iastore, 1) := by decide +kernel
theorem dX11_ask_162 : decode cX11_ask 162 = .ok (.aload_n 0, 1) := by decide +kernel
theorem dX11_ask_163 : decode cX11_ask 163 = .ok (.getfield 29, 3) := by decide +kernel
theorem dX11_ask_166 : decode cX11_ask 166 = .ok (.iload 4, 2) := by decide +kernel
theorem dX11_ask_168 : decode cX11_ask 168 = .ok (.dup2, 1) := by decide +kernel
theorem dX11_ask_169 : decode cX11_ask 169 = .ok (.iaload, 1) := by decide +kernel
theorem dX11_ask_170 : decode cX11_ask 170 = .ok (.iconst 1, 1) := by decide +kernel
theorem dX11_ask_171 : decode cX11_ask 171 = .ok (.iadd, 1) := by decide +kernel
theorem dX11_ask_172 : decode cX11_ask 172 = .ok (.iastore, 1) := by decide +kernel
theorem dX11_ask_173 : decode cX11_ask 173 = .ok (.aload_n 0, 1) := by decide +kernel
theorem dX11_ask_174 : decode cX11_ask 174 = .ok (.iload 4, 2) := by decide +kernel
theorem dX11_ask_176 : decode cX11_ask 176 = .ok (.invokevirtual 128, 3) := by decide +kernel
theorem dX11_ask_179 : decode cX11_ask 179 = .ok (.istore 5, 2) := by decide +kernel
theorem dX11_ask_181 : decode cX11_ask 181 = .ok (.iload 5, 2) := by decide +kernel
theorem dX11_ask_183 : decode cX11_ask 183 = .ok (.ifCond .le 14, 3) := by decide +kernel
theorem dX11_ask_186 : decode cX11_ask 186 = .ok (.aload_n 0, 1) := by decide +kernel
theorem dX11_ask_187 : decode cX11_ask 187 = .ok (.iload 4, 2) := by decide +kernel
theorem dX11_ask_189 : decode cX11_ask 189 = .ok (.ldc 87, 2) := by decide +kernel
theorem dX11_ask_191 : decode cX11_ask 191 = .ok (.iload 5, 2) := by decide +kernel
theorem dX11_ask_193 : decode cX11_ask 193 = .ok (.invokevirtual 121, 3) := by decide +kernel
theorem dX11_ask_196 : decode cX11_ask 196 = .ok (.ireturn, 1) := by decide +kernel
theorem dX11_ask_197 : decode cX11_ask 197 = .ok (.aload_n 0, 1) := by decide +kernel
theorem dX11_ask_198 : decode cX11_ask 198 = .ok (.getfield 50, 3) := by decide +kernel
theorem dX11_ask_201 : decode cX11_ask 201 = .ok (.bipush 41, 2) := by decide +kernel
theorem dX11_ask_203 : decode cX11_ask 203 = .ok (.iload_n 1, 1) := by decide +kernel
theorem dX11_ask_204 : decode cX11_ask 204 = .ok (.imul, 1) := by decide +kernel
theorem dX11_ask_205 : decode cX11_ask 205 = .ok (.iload_n 2, 1) := by decide +kernel
theorem dX11_ask_206 : decode cX11_ask 206 = .ok (.iadd, 1) := by decide +kernel
theorem dX11_ask_207 : decode cX11_ask 207 = .ok (.aload_n 0, 1) := by decide +kernel
theorem dX11_ask_208 : decode cX11_ask 208 = .ok (.getfield 53, 3) := by decide +kernel
theorem dX11_ask_211 : decode cX11_ask 211 = .ok (.iload_n 1, 1) := by decide +kernel
theorem dX11_ask_212 : decode cX11_ask 212 = .ok (.iaload, 1) := by decide +kernel
theorem dX11_ask_213 : decode cX11_ask 213 = .ok (.iastore, 1) := by decide +kernel
theorem dX11_ask_214 : decode cX11_ask 214 = .ok (.aload_n 0, 1) := by decide +kernel
theorem dX11_ask_215 : decode cX11_ask 215 = .ok (.iload_n 1, 1) := by decide +kernel
theorem dX11_ask_216 : decode cX11_ask 216 = .ok (.iload 4, 2) := by decide +kernel
theorem dX11_ask_218 : decode cX11_ask 218 = .ok (.invokevirtual 131, 3) := by decide +kernel
theorem dX11_ask_221 : decode cX11_ask 221 = .ok (.ireturn, 1) := by decide +kernel
theorem dX11_arcsOf_0 : decode cX11_arcsOf 0 = .ok (.iconst 0, 1) := by decide +kernel
theorem dX11_arcsOf_1 : decode cX11_arcsOf 1 = .ok (.istore_n 3, 1) := by decide +kernel
theorem dX11_arcsOf_2 : decode cX11_arcsOf 2 = .ok (.iload_n 3, 1) := by decide +kernel
theorem dX11_arcsOf_3 : decode cX11_arcsOf 3 = .ok (.aload_n 0, 1) := by decide +kernel
theorem dX11_arcsOf_4 : decode cX11_arcsOf 4 = .ok (.getfield 101, 3) := by decide +kernel
theorem dX11_arcsOf_7 : decode cX11_arcsOf 7 = .ok (.if_icmp .ge 192, 3) := by decide +kernel
theorem dX11_arcsOf_10 : decode cX11_arcsOf 10 = .ok (.aload_n 0, 1) := by decide +kernel
theorem dX11_arcsOf_11 : decode cX11_arcsOf 11 = .ok (.getfield 35, 3) := by decide +kernel
theorem dX11_arcsOf_14 : decode cX11_arcsOf 14 = .ok (.iload_n 3, 1) := by decide +kernel
theorem dX11_arcsOf_15 : decode cX11_arcsOf 15 = .ok (.iaload, 1) := by decide +kernel
theorem dX11_arcsOf_16 : decode cX11_arcsOf 16 = .ok (.istore 4, 2) := by decide +kernel
theorem dX11_arcsOf_18 : decode cX11_arcsOf 18 = .ok (.iload 4, 2) := by decide +kernel
theorem dX11_arcsOf_20 : decode cX11_arcsOf 20 = .ok (.ldc 87, 2) := by decide +kernel
theorem dX11_arcsOf_22 : decode cX11_arcsOf 22 = .ok (.if_icmp .ne 16, 3) := by decide +kernel
theorem dX11_arcsOf_25 : decode cX11_arcsOf 25 = .ok (.aload_n 0, 1) := by decide +kernel
theorem dX11_arcsOf_26 : decode cX11_arcsOf 26 = .ok (.getfield 65, 3) := by decide +kernel
theorem dX11_arcsOf_29 : decode cX11_arcsOf 29 = .ok (.iload_n 1, 1) := by decide +kernel
theorem dX11_arcsOf_30 : decode cX11_arcsOf 30 = .ok (.dup2, 1) := by decide +kernel
theorem dX11_arcsOf_31 : decode cX11_arcsOf 31 = .ok (.iaload, 1) := by decide +kernel
theorem dX11_arcsOf_32 : decode cX11_arcsOf 32 = .ok (.iconst 1, 1) := by decide +kernel
theorem dX11_arcsOf_33 : decode cX11_arcsOf 33 = .ok (.iadd, 1) := by decide +kernel
theorem dX11_arcsOf_34 : decode cX11_arcsOf 34 = .ok (.iastore, 1) := by decide +kernel
theorem dX11_arcsOf_35 : decode cX11_arcsOf 35 = .ok (.goto 158, 3) := by decide +kernel
theorem dX11_arcsOf_38 : decode cX11_arcsOf 38 = .ok (.iload 4, 2) := by decide +kernel
theorem dX11_arcsOf_40 : decode cX11_arcsOf 40 = .ok (.istore 5, 2) := by decide +kernel
theorem dX11_arcsOf_42 : decode cX11_arcsOf 42 = .ok (.iconst 1, 1) := by decide +kernel
theorem dX11_arcsOf_43 : decode cX11_arcsOf 43 = .ok (.istore 6, 2) := by decide +kernel
theorem dX11_arcsOf_45 : decode cX11_arcsOf 45 = .ok (.aload_n 0, 1) := by decide +kernel
theorem dX11_arcsOf_46 : decode cX11_arcsOf 46 = .ok (.getfield 7, 3) := by decide +kernel
theorem dX11_arcsOf_49 : decode cX11_arcsOf 49 = .ok (.iload 4, 2) := by decide +kernel
theorem dX11_arcsOf_51 : decode cX11_arcsOf 51 = .ok (.iaload, 1) := by decide +kernel
theorem dX11_arcsOf_52 : decode cX11_arcsOf 52 = .ok (.iconst 2, 1) := by decide +kernel
theorem dX11_arcsOf_53 : decode cX11_arcsOf 53 = .ok (.if_icmp .ne 70, 3) := by decide +kernel
theorem dX11_arcsOf_56 : decode cX11_arcsOf 56 = .ok (.aload_n 0, 1) := by decide +kernel
theorem dX11_arcsOf_57 : decode cX11_arcsOf 57 = .ok (.getfield 29, 3) := by decide +kernel
theorem dX11_arcsOf_60 : decode cX11_arcsOf 60 = .ok (.iload 4, 2) := by decide +kernel
theorem dX11_arcsOf_62 : decode cX11_arcsOf 62 = .ok (.dup2, 1) := by decide +kernel
theorem dX11_arcsOf_63 : decode cX11_arcsOf 63 = .ok (.iaload, 1) := by decide +kernel
theorem dX11_arcsOf_64 : decode cX11_arcsOf 64 = .ok (.iconst 1, 1) := by decide +kernel
theorem dX11_arcsOf_65 : decode cX11_arcsOf 65 = .ok (.iadd, 1) := by decide +kernel
theorem dX11_arcsOf_66 : decode cX11_arcsOf 66 = .ok (.iastore, 1) := by decide +kernel
theorem dX11_arcsOf_67 : decode cX11_arcsOf 67 = .ok (.aload_n 0, 1) := by decide +kernel
theorem dX11_arcsOf_68 : decode cX11_arcsOf 68 = .ok (.iload 4, 2) := by decide +kernel
theorem dX11_arcsOf_70 : decode cX11_arcsOf 70 = .ok (.iload_n 2, 1) := by decide +kernel
theorem dX11_arcsOf_71 : decode cX11_arcsOf 71 = .ok (.invokevirtual 135, 3) := by decide +kernel
theorem dX11_arcsOf_74 : decode cX11_arcsOf 74 = .ok (.istore 7, 2) := by decide +kernel
theorem dX11_arcsOf_76 : decode cX11_arcsOf 76 = .ok (.iload 7, 2) := by decide +kernel
theorem dX11_arcsOf_78 : decode cX11_arcsOf 78 = .ok (.ifCond .le 14, 3) := by decide +kernel
theorem dX11_arcsOf_81 : decode cX11_arcsOf 81 = .ok (.aload_n 0, 1) := by decide +kernel
theorem dX11_arcsOf_82 : decode cX11_arcsOf 82 = .ok (.iload 4, 2) := by decide +kernel
theorem dX11_arcsOf_84 : decode cX11_arcsOf 84 = .ok (.ldc 87, 2) := by decide +kernel
theorem dX11_arcsOf_86 : decode cX11_arcsOf 86 = .ok (.iload 7, 2) := by decide +kernel
theorem dX11_arcsOf_88 : decode cX11_arcsOf 88 = .ok (.invokevirtual 121, 3) := by decide +kernel
theorem dX11_arcsOf_91 : decode cX11_arcsOf 91 = .ok (.ireturn, 1) := by decide +kernel
theorem dX11_arcsOf_92 : decode cX11_arcsOf 92 = .ok (.aload_n 0, 1) := by decide +kernel
theorem dX11_arcsOf_93 : decode cX11_arcsOf 93 = .ok (.getfield 98, 3) := by decide +kernel
theorem dX11_arcsOf_96 : decode cX11_arcsOf 96 = .ok (.istore 5, 2) := by decide +kernel
theorem dX11_arcsOf_98 : decode cX11_arcsOf 98 = .ok (.aload_n 0, 1) := by decide +kernel
theorem dX11_arcsOf_99 : decode cX11_arcsOf 99 = .ok (.getfield 29, 3) := by decide +kernel
theorem dX11_arcsOf_102 : decode cX11_arcsOf 102 = .ok (.iload 4, 2) := by decide +kernel
theorem dX11_arcsOf_104 : decode cX11_arcsOf 104 = .ok (.dup2, 1) := by decide +kernel
theorem dX11_arcsOf_105 : decode cX11_arcsOf 105 = .ok (.iaload, 1) := by decide +kernel
theorem dX11_arcsOf_106 : decode cX11_arcsOf 106 = .ok (.iconst 1, 1) := by decide +kernel
theorem dX11_arcsOf_107 : decode cX11_arcsOf 107 = .ok (.iadd, 1) := by decide +kernel
theorem dX11_arcsOf_108 : decode cX11_arcsOf 108 = .ok (.iastore, 1) := by decide +kernel
theorem dX11_arcsOf_109 : decode cX11_arcsOf 109 = .ok (.aload_n 0, 1) := by decide +kernel
theorem dX11_arcsOf_110 : decode cX11_arcsOf 110 = .ok (.iload 4, 2) := by decide +kernel
theorem dX11_arcsOf_112 : decode cX11_arcsOf 112 = .ok (.invokevirtual 125, 3) := by decide +kernel
theorem dX11_arcsOf_115 : decode cX11_arcsOf 115 = .ok (.istore 7, 2) := by decide +kernel
theorem dX11_arcsOf_117 : decode cX11_arcsOf 117 = .ok (.aload_n 0, 1) := by decide +kernel
theorem dX11_arcsOf_118 : decode cX11_arcsOf 118 = .ok (.getfield 98, 3) := by decide +kernel
theorem dX11_arcsOf_121 : decode cX11_arcsOf 121 = .ok (.istore 6, 2) := by decide +kernel
theorem dX11_arcsOf_123 : decode cX11_arcsOf 123 = .ok (.sipush 240, 3) := by decide +kernel
theorem dX11_arcsOf_126 : decode cX11_arcsOf 126 = .ok (.iload_n 1, 1) := by decide +kernel
theorem dX11_arcsOf_127 : decode cX11_arcsOf 127 = .ok (.imul, 1) := by decide +kernel
theorem dX11_arcsOf_128 : decode cX11_arcsOf 128 = .ok (.aload_n 0, 1) := by decide +kernel
theorem dX11_arcsOf_129 : decode cX11_arcsOf 129 = .ok (.getfield 53, 3) := by decide +kernel
theorem dX11_arcsOf_132 : decode cX11_arcsOf 132 = .ok (.iload_n 1, 1) := by decide +kernel
theorem dX11_arcsOf_133 : decode cX11_arcsOf 133 = .ok (.iaload, 1) := by decide +kernel
theorem dX11_arcsOf_134 : decode cX11_arcsOf 134 = .ok (.iadd, 1) := by decide +kernel
theorem dX11_arcsOf_135 : decode cX11_arcsOf 135 = .ok (.istore 7, 2) := by decide +kernel
theorem dX11_arcsOf_137 : decode cX11_arcsOf 137 = .ok (.aload_n 0, 1) := by decide +kernel
theorem dX11_arcsOf_138 : decode cX11_arcsOf 138 = .ok (.getfield 56, 3) := by decide +kernel
theorem dX11_arcsOf_141 : decode cX11_arcsOf 141 = .ok (.iload 7, 2) := by decide +kernel
theorem dX11_arcsOf_143 : decode cX11_arcsOf 143 = .ok (.aload_n 0, 1) := by decide +kernel
theorem dX11_arcsOf_144 : decode cX11_arcsOf 144 = .ok (.iload_n 1, 1) := by decide +kernel
theorem dX11_arcsOf_145 : decode cX11_arcsOf 145 = .ok (.iload 5, 2) := by decide +kernel
theorem dX11_arcsOf_147 : decode cX11_arcsOf 147 = .ok (.invokevirtual 138, 3) := by decide +kernel
theorem dX11_arcsOf_150 : decode cX11_arcsOf 150 = .ok (.iastore, 1) := by decide +kernel
theorem dX11_arcsOf_151 : decode cX11_arcsOf 151 = .ok (.aload_n 0, 1) := by decide +kernel
theorem dX11_arcsOf_152 : decode cX11_arcsOf 152 = .ok (.getfield 59, 3) := by decide +kernel
theorem dX11_arcsOf_155 : decode cX11_arcsOf 155 = .ok (.iload 7, 2) := by decide +kernel
theorem dX11_arcsOf_157 : decode cX11_arcsOf 157 = .ok (.iload 6, 2) := by decide +kernel
theorem dX11_arcsOf_159 : decode cX11_arcsOf 159 = .ok (.iastore, 1) := by decide +kernel
theorem dX11_arcsOf_160 : decode cX11_arcsOf 160 = .ok (.aload_n 0, 1) := by decide +kernel
theorem dX11_arcsOf_161 : decode cX11_arcsOf 161 = .ok (.getfield 62, 3) := by decide +kernel
theorem dX11_arcsOf_164 : decode cX11_arcsOf 164 = .ok (.iload 7, 2) := by decide +kernel
theorem dX11_arcsOf_166 : decode cX11_arcsOf 166 = .ok (.aload_n 0, 1) := by decide +kernel
theorem dX11_arcsOf_167 : decode cX11_arcsOf 167 = .ok (.getfield 7, 3) := by decide +kernel
theorem dX11_arcsOf_170 : decode cX11_arcsOf 170 = .ok (.iload 4, 2) := by decide +kernel
theorem dX11_arcsOf_172 : decode cX11_arcsOf 172 = .ok (.iaload, 1) := by decide +kernel
theorem dX11_arcsOf_173 : decode cX11_arcsOf 173 = .ok (.iconst 2, 1) := by decide +kernel
theorem dX11_arcsOf_174 : decode cX11_arcsOf 174 = .ok (.if_icmp .ne 7, 3) := by decide +kernel
theorem dX11_arcsOf_177 : decode cX11_arcsOf 177 = .ok (.iconst 1, 1) := by decide +kernel
theorem dX11_arcsOf_178 : decode cX11_arcsOf 178 = .ok (.goto 4, 3) := by decide +kernel
theorem dX11_arcsOf_181 : decode cX11_arcsOf 181 = .ok (.iconst 0, 1) := by decide +kernel
theorem dX11_arcsOf_182 : decode cX11_arcsOf 182 = .ok (.bastore, 1) := by decide +kernel
theorem dX11_arcsOf_183 : decode cX11_arcsOf 183 = .ok (.aload_n 0, 1) := by decide +kernel
theorem dX11_arcsOf_184 : decode cX11_arcsOf 184 = .ok (.getfield 53, 3) := by decide +kernel
theorem dX11_arcsOf_187 : decode cX11_arcsOf 187 = .ok (.iload_n 1, 1) := by decide +kernel
theorem dX11_arcsOf_188 : decode cX11_arcsOf 188 = .ok (.dup2, 1) := by decide +kernel
theorem dX11_arcsOf_189 : decode cX11_arcsOf 189 = .ok (.iaload, 1) := by decide +kernel
theorem dX11_arcsOf_190 : decode cX11_arcsOf 190 = .ok (.iconst 1, 1) := by decide +kernel
theorem dX11_arcsOf_191 : decode cX11_arcsOf 191 = .ok (.iadd, 1) := by decide +kernel
theorem dX11_arcsOf_192 : decode cX11_arcsOf 192 = .ok (.iastore, 1) := by decide +kernel
theorem dX11_arcsOf_193 : decode cX11_arcsOf 193 = .ok (.iinc 3 1, 3) := by decide +kernel
theorem dX11_arcsOf_196 : decode cX11_arcsOf 196 = .ok (.goto (-194), 3) := by decide +kernel
theorem dX11_arcsOf_199 : decode cX11_arcsOf 199 = .ok (.iconst 0, 1) := by decide +kernel
theorem dX11_arcsOf_200 : decode cX11_arcsOf 200 = .ok (.ireturn, 1) := by decide +kernel
theorem dX11_load_0 : decode cX11_load 0 = .ok (.aload_n 0, 1) := by decide +kernel
theorem dX11_load_1 : decode cX11_load 1 = .ok (.iload_n 1, 1) := by decide +kernel
theorem dX11_load_2 : decode cX11_load 2 = .ok (.invokevirtual 88, 3) := by decide +kernel
theorem dX11_load_5 : decode cX11_load 5 = .ok (.ifCond .ne 6, 3) := by decide +kernel
theorem dX11_load_8 : decode cX11_load 8 = .ok (.ldc 92, 2) := by decide +kernel
theorem dX11_load_10 : decode cX11_load 10 = .ok (.ireturn, 1) := by decide +kernel
theorem dX11_load_11 : decode cX11_load 11 = .ok (.aload_n 0, 1) := by decide +kernel
theorem dX11_load_12 : decode cX11_load 12 = .ok (.getfield 7, 3) := by decide +kernel
theorem dX11_load_15 : decode cX11_load 15 = .ok (.iload_n 1, 1) := by decide +kernel
theorem dX11_load_16 : decode cX11_load 16 = .ok (.iaload, 1) := by decide +kernel
theorem dX11_load_17 : decode cX11_load 17 = .ok (.iconst 2, 1) := by decide +kernel
theorem dX11_load_18 : decode cX11_load 18 = .ok (.if_icmp .ne 6, 3) := by decide +kernel
theorem dX11_load_21 : decode cX11_load 21 = .ok (.ldc 141, 2) := by decide +kernel
theorem dX11_load_23 : decode cX11_load 23 = .ok (.ireturn, 1) := by decide +kernel
theorem dX11_load_24 : decode cX11_load 24 = .ok (.iconst 1, 1) := by decide +kernel
theorem dX11_load_25 : decode cX11_load 25 = .ok (.aload_n 0, 1) := by decide +kernel
theorem dX11_load_26 : decode cX11_load 26 = .ok (.getfield 142, 3) := by decide +kernel
theorem dX11_load_29 : decode cX11_load 29 = .ok (.isub, 1) := by decide +kernel
theorem dX11_load_30 : decode cX11_load 30 = .ok (.istore_n 3, 1) := by decide +kernel
theorem dX11_load_31 : decode cX11_load 31 = .ok (.aload_n 0, 1) := by decide +kernel
theorem dX11_load_32 : decode cX11_load 32 = .ok (.iconst 0, 1) := by decide +kernel
theorem dX11_load_33 : decode cX11_load 33 = .ok (.putfield 110, 3) := by decide +kernel
theorem dX11_load_36 : decode cX11_load 36 = .ok (.aload_n 0, 1) := by decide +kernel
theorem dX11_load_37 : decode cX11_load 37 = .ok (.getfield 38, 3) := by decide +kernel
theorem dX11_load_40 : decode cX11_load 40 = .ok (.iload_n 3, 1) := by decide +kernel
theorem dX11_load_41 : decode cX11_load 41 = .ok (.iconst 0, 1) := by decide +kernel
theorem dX11_load_42 : decode cX11_load 42 = .ok (.iastore, 1) := by decide +kernel
theorem dX11_load_43 : decode cX11_load 43 = .ok (.aload_n 0, 1) := by decide +kernel
theorem dX11_load_44 : decode cX11_load 44 = .ok (.getfield 53, 3) := by decide +kernel
theorem dX11_load_47 : decode cX11_load 47 = .ok (.iload_n 3, 1) := by decide +kernel
theorem dX11_load_48 : decode cX11_load 48 = .ok (.iconst 0, 1) := by decide +kernel
theorem dX11_load_49 : decode cX11_load 49 = .ok (.iastore, 1) := by decide +kernel
theorem dX11_load_50 : decode cX11_load 50 = .ok (.aload_n 0, 1) := by decide +kernel
theorem dX11_load_51 : decode cX11_load 51 = .ok (.getfield 65, 3) := by decide +kernel
theorem dX11_load_54 : decode cX11_load 54 = .ok (.iload_n 3, 1) := by decide +kernel
theorem dX11_load_55 : decode cX11_load 55 = .ok (.iconst 0, 1) := by decide +kernel
theorem dX11_load_56 : decode cX11_load 56 = .ok (.iastore, 1) := by decide +kernel
theorem dX11_load_57 : decode cX11_load 57 = .ok (.iconst 0, 1) := by decide +kernel
theorem dX11_load_58 : decode cX11_load 58 = .ok (.istore 4, 2) := by decide +kernel
theorem dX11_load_60 : decode cX11_load 60 = .ok (.iload 4, 2) := by decide +kernel
theorem dX11_load_62 : decode cX11_load 62 = .ok (.bipush 40, 2) := by decide +kernel
theorem dX11_load_64 : decode cX11_load 64 = .ok (.if_icmp .ge 22, 3) := by decide +kernel
theorem dX11_load_67 : decode cX11_load 67 = .ok (.aload_n 0, 1) := by decide +kernel
theorem dX11_load_68 : decode cX11_load 68 = .ok (.getfield 44, 3) := by decide +kernel
theorem dX11_load_71 : decode cX11_load 71 = .ok (.bipush 40, 2) := by decide +kernel
theorem dX11_load_73 : decode cX11_load 73 = .ok (.iload_n 3, 1) := by decide +kernel
theorem dX11_load_74 : decode cX11_load 74 = .ok (.imul, 1) := by decide +kernel
theorem dX11_load_75 : decode cX11_load 75 = .ok (.iload 4, 2) := by decide +kernel
theorem dX11_load_77 : decode cX11_load 77 = .ok (.iadd, 1) := by decide +kernel
theorem dX11_load_78 : decode cX11_load 78 = .ok (.iconst (-1), 1) := by decide +kernel
theorem dX11_load_79 : decode cX11_load 79 = .ok (.iastore, 1) := by decide +kernel
theorem dX11_load_80 : decode cX11_load 80 = .ok (.iinc 4 1, 3) := by decide +kernel
theorem dX11_load_83 : decode cX11_load 83 = .ok (.goto (-23), 3) := by decide +kernel
theorem dX11_load_86 : decode cX11_load 86 = .ok (.aload_n 0, 1) := by decide +kernel
theorem dX11_load_87 : decode cX11_load 87 = .ok (.iload_n 3, 1) := by decide +kernel
theorem dX11_load_88 : decode cX11_load 88 = .ok (.iload_n 1, 1) := by decide +kernel
theorem dX11_load_89 : decode cX11_load 89 = .ok (.invokevirtual 138, 3) := by decide +kernel
theorem dX11_load_92 : decode cX11_load 92 = .ok (.istore 4, 2) := by decide +kernel
theorem dX11_load_94 : decode cX11_load 94 = .ok (.iload 4, 2) := by decide +kernel
theorem dX11_load_96 : decode cX11_load 96 = .ok (.aload_n 0, 1) := by decide +kernel
theorem dX11_load_97 : decode cX11_load 97 = .ok (.getfield 38, 3) := by decide +kernel
theorem dX11_load_100 : decode cX11_load 100 = .ok (.iload_n 3, 1) := by decide +kernel
theorem dX11_load_101 : decode cX11_load 101 = .ok (.iaload, 1) := by decide +kernel
theorem dX11_load_102 : decode cX11_load 102 = .ok (.if_icmp .ge 27, 3) := by decide +kernel
theorem dX11_load_105 : decode cX11_load 105 = .ok (.aload_n 0, 1) := by decide +kernel
theorem dX11_load_106 : decode cX11_load 106 = .ok (.iload_n 3, 1) := by decide +kernel
theorem dX11_load_107 : decode cX11_load 107 = .ok (.iload 4, 2) := by decide +kernel
theorem dX11_load_109 : decode cX11_load 109 = .ok (.iload_n 2, 1) := by decide +kernel
theorem dX11_load_110 : decode cX11_load 110 = .ok (.invokevirtual 145, 3) := by decide +kernel
theorem dX11_load_113 : decode cX11_load 113 = .ok (.istore 5, 2) := by decide +kernel
theorem dX11_load_115 : decode cX11_load 115 = .ok (.iload 5, 2) := by decide +kernel
theorem dX11_load_117 : decode cX11_load 117 = .ok (.ifCond .ge 6, 3) := by decide +kernel
theorem dX11_load_120 : decode cX11_load 120 = .ok (.iload 5, 2) := by decide +kernel
theorem dX11_load_122 : decode cX11_load 122 = .ok (.ireturn, 1) := by decide +kernel
theorem dX11_load_123 : decode cX11_load 123 = .ok (.iinc 4 1, 3) := by decide +kernel
theorem dX11_load_126 : decode cX11_load 126 = .ok (.goto (-32), 3) := by decide +kernel
theorem dX11_load_129 : decode cX11_load 129 = .ok (.aload_n 0, 1) := by decide +kernel
theorem dX11_load_130 : decode cX11_load 130 = .ok (.getfield 50, 3) := by decide +kernel
theorem dX11_load_133 : decode cX11_load 133 = .ok (.bipush 41, 2) := by decide +kernel
theorem dX11_load_135 : decode cX11_load 135 = .ok (.iload_n 3, 1) := by decide +kernel
theorem dX11_load_136 : decode cX11_load 136 = .ok (.imul, 1) := by decide +kernel
theorem dX11_load_137 : decode cX11_load 137 = .ok (.aload_n 0, 1) := by decide +kernel
theorem dX11_load_138 : decode cX11_load 138 = .ok (.getfield 38, 3) := by decide +kernel
theorem dX11_load_141 : decode cX11_load 141 = .ok (.iload_n 3, 1) := by decide +kernel
theorem dX11_load_142 : decode cX11_load 142 = .ok (.iaload, 1) := by decide +kernel
theorem dX11_load_143 : decode cX11_load 143 = .ok (.iadd, 1) := by decide +kernel
theorem dX11_load_144 : decode cX11_load 144 = .ok (.aload_n 0, 1) := by decide +kernel
theorem dX11_load_145 : decode cX11_load 145 = .ok (.getfield 53, 3) := by decide +kernel
theorem dX11_load_148 : decode cX11_load 148 = .ok (.iload_n 3, 1) := by decide +kernel
theorem dX11_load_149 : decode cX11_load 149 = .ok (.iaload, 1) := by decide +kernel
theorem dX11_load_150 : decode cX11_load 150 = .ok (.iastore, 1) := by decide +kernel
theorem dX11_load_151 : decode cX11_load 151 = .ok (.aload_n 0, 1) := by decide +kernel
theorem dX11_load_152 : decode cX11_load 152 = .ok (.iload_n 3, 1) := by decide +kernel
theorem dX11_load_153 : decode cX11_load 153 = .ok (.putfield 142, 3) := by decide +kernel
theorem dX11_load_156 : decode cX11_load 156 = .ok (.aload_n 0, 1) := by decide +kernel
theorem dX11_load_157 : decode cX11_load 157 = .ok (.getfield 38, 3) := by decide +kernel
theorem dX11_load_160 : decode cX11_load 160 = .ok (.iload_n 3, 1) := by decide +kernel
theorem dX11_load_161 : decode cX11_load 161 = .ok (.iaload, 1) := by decide +kernel
theorem dX11_load_162 : decode cX11_load 162 = .ok (.ireturn, 1) := by decide +kernel
theorem dX11_refused_0 : decode cX11_refused 0 = .ok (.iload_n 1, 1) := by decide +kernel
theorem dX11_refused_1 : decode cX11_refused 1 = .ok (.iconst 0, 1) := by decide +kernel
theorem dX11_refused_2 : decode cX11_refused 2 = .ok (.iconst 2, 1) := by decide +kernel
theorem dX11_refused_3 : decode cX11_refused 3 = .ok (.invokestatic 81, 3) := by decide +kernel
theorem dX11_refused_6 : decode cX11_refused 6 = .ok (.ifCond .ne 6, 3) := by decide +kernel
theorem dX11_refused_9 : decode cX11_refused 9 = .ok (.ldc 85, 2) := by decide +kernel
theorem dX11_refused_11 : decode cX11_refused 11 = .ok (.ireturn, 1) := by decide +kernel
theorem dX11_refused_12 : decode cX11_refused 12 = .ok (.aload_n 0, 1) := by decide +kernel
theorem dX11_refused_13 : decode cX11_refused 13 = .ok (.getfield 110, 3) := by decide +kernel
theorem dX11_refused_16 : decode cX11_refused 16 = .ok (.ifCond .ne 8, 3) := by decide +kernel
theorem dX11_refused_19 : decode cX11_refused 19 = .ok (.ldc 87, 2) := by decide +kernel
theorem dX11_refused_21 : decode cX11_refused 21 = .ok (.goto 30, 3) := by decide +kernel
theorem dX11_refused_24 : decode cX11_refused 24 = .ok (.iload_n 1, 1) := by decide +kernel
theorem dX11_refused_25 : decode cX11_refused 25 = .ok (.ifCond .ne 10, 3) := by decide +kernel
theorem dX11_refused_28 : decode cX11_refused 28 = .ok (.aload_n 0, 1) := by decide +kernel
theorem dX11_refused_29 : decode cX11_refused 29 = .ok (.getfield 104, 3) := by decide +kernel
theorem dX11_refused_32 : decode cX11_refused 32 = .ok (.goto 19, 3) := by decide +kernel
theorem dX11_refused_35 : decode cX11_refused 35 = .ok (.iload_n 1, 1) := by decide +kernel
theorem dX11_refused_36 : decode cX11_refused 36 = .ok (.iconst 1, 1) := by decide +kernel
theorem dX11_refused_37 : decode cX11_refused 37 = .ok (.if_icmp .ne 10, 3) := by decide +kernel
theorem dX11_refused_40 : decode cX11_refused 40 = .ok (.aload_n 0, 1) := by decide +kernel
theorem dX11_refused_41 : decode cX11_refused 41 = .ok (.getfield 107, 3) := by decide +kernel
theorem dX11_refused_44 : decode cX11_refused 44 = .ok (.goto 7, 3) := by decide +kernel
theorem dX11_refused_47 : decode cX11_refused 47 = .ok (.aload_n 0, 1) := by decide +kernel
theorem dX11_refused_48 : decode cX11_refused 48 = .ok (.getfield 110, 3) := by decide +kernel
theorem dX11_refused_51 : decode cX11_refused 51 = .ok (.ireturn, 1) := by decide +kernel
theorem dX11_node_0 : decode cX11_node 0 = .ok (.aload_n 0, 1) := by decide +kernel
theorem dX11_node_1 : decode cX11_node 1 = .ok (.iload_n 1, 1) := by decide +kernel
theorem dX11_node_2 : decode cX11_node 2 = .ok (.invokevirtual 88, 3) := by decide +kernel
theorem dX11_node_5 : decode cX11_node 5 = .ok (.ifCond .ne 6, 3) := by decide +kernel
theorem dX11_node_8 : decode cX11_node 8 = .ok (.ldc 92, 2) := by decide +kernel
theorem dX11_node_10 : decode cX11_node 10 = .ok (.ireturn, 1) := by decide +kernel
theorem dX11_node_11 : decode cX11_node 11 = .ok (.aload_n 0, 1) := by decide +kernel
theorem dX11_node_12 : decode cX11_node 12 = .ok (.getfield 38, 3) := by decide +kernel
theorem dX11_node_15 : decode cX11_node 15 = .ok (.aload_n 0, 1) := by decide +kernel
theorem dX11_node_16 : decode cX11_node 16 = .ok (.getfield 142, 3) := by decide +kernel
theorem dX11_node_19 : decode cX11_node 19 = .ok (.iaload, 1) := by decide +kernel
theorem dX11_node_20 : decode cX11_node 20 = .ok (.ifCond .eq 20, 3) := by decide +kernel
theorem dX11_node_23 : decode cX11_node 23 = .ok (.aload_n 0, 1) := by decide +kernel
theorem dX11_node_24 : decode cX11_node 24 = .ok (.getfield 44, 3) := by decide +kernel
theorem dX11_node_27 : decode cX11_node 27 = .ok (.bipush 40, 2) := by decide +kernel
theorem dX11_node_29 : decode cX11_node 29 = .ok (.aload_n 0, 1) := by decide +kernel
theorem dX11_node_30 : decode cX11_node 30 = .ok (.getfield 142, 3) := by decide +kernel
theorem dX11_node_33 : decode cX11_node 33 = .ok (.imul, 1) := by decide +kernel
theorem dX11_node_34 : decode cX11_node 34 = .ok (.iload_n 1, 1) := by decide +kernel
theorem dX11_node_35 : decode cX11_node 35 = .ok (.iadd, 1) := by decide +kernel
theorem dX11_node_36 : decode cX11_node 36 = .ok (.iaload, 1) := by decide +kernel
theorem dX11_node_37 : decode cX11_node 37 = .ok (.ifCond .ge 8, 3) := by decide +kernel
theorem dX11_node_40 : decode cX11_node 40 = .ok (.ldc 87, 2) := by decide +kernel
theorem dX11_node_42 : decode cX11_node 42 = .ok (.goto 17, 3) := by decide +kernel
theorem dX11_node_45 : decode cX11_node 45 = .ok (.aload_n 0, 1) := by decide +kernel
theorem dX11_node_46 : decode cX11_node 46 = .ok (.getfield 44, 3) := by decide +kernel
theorem dX11_node_49 : decode cX11_node 49 = .ok (.bipush 40, 2) := by decide +kernel
theorem dX11_node_51 : decode cX11_node 51 = .ok (.aload_n 0, 1) := by decide +kernel
theorem dX11_node_52 : decode cX11_node 52 = .ok (.getfield 142, 3) := by decide +kernel
theorem dX11_node_55 : decode cX11_node 55 = .ok (.imul, 1) := by decide +kernel
theorem dX11_node_56 : decode cX11_node 56 = .ok (.iload_n 1, 1) := by decide +kernel
theorem dX11_node_57 : decode cX11_node 57 = .ok (.iadd, 1) := by decide +kernel
theorem dX11_node_58 : decode cX11_node 58 = .ok (.iaload, 1) := by decide +kernel
theorem dX11_node_59 : decode cX11_node 59 = .ok (.ireturn, 1) := by decide +kernel
theorem dX11_isNode_0 : decode cX11_isNode 0 = .ok (.iload_n 1, 1) := by decide +kernel
theorem dX11_isNode_1 : decode cX11_isNode 1 = .ok (.iconst 0, 1) := by decide +kernel
theorem dX11_isNode_2 : decode cX11_isNode 2 = .ok (.aload_n 0, 1) := by decide +kernel
theorem dX11_isNode_3 : decode cX11_isNode 3 = .ok (.getfield 38, 3) := by decide +kernel
theorem dX11_isNode_6 : decode cX11_isNode 6 = .ok (.aload_n 0, 1) := by decide +kernel
theorem dX11_isNode_7 : decode cX11_isNode 7 = .ok (.getfield 142, 3) := by decide +kernel
theorem dX11_isNode_10 : decode cX11_isNode 10 = .ok (.iaload, 1) := by decide +kernel
theorem dX11_isNode_11 : decode cX11_isNode 11 = .ok (.iconst 1, 1) := by decide +kernel
theorem dX11_isNode_12 : decode cX11_isNode 12 = .ok (.isub, 1) := by decide +kernel
theorem dX11_isNode_13 : decode cX11_isNode 13 = .ok (.invokestatic 81, 3) := by decide +kernel
theorem dX11_isNode_16 : decode cX11_isNode 16 = .ok (.ireturn, 1) := by decide +kernel
theorem dX11_of_0 : decode cX11_of 0 = .ok (.aload_n 0, 1) := by decide +kernel
theorem dX11_of_1 : decode cX11_of 1 = .ok (.iload_n 1, 1) := by decide +kernel
theorem dX11_of_2 : decode cX11_of 2 = .ok (.invokevirtual 149, 3) := by decide +kernel
theorem dX11_of_5 : decode cX11_of 5 = .ok (.ifCond .eq 20, 3) := by decide +kernel
theorem dX11_of_8 : decode cX11_of 8 = .ok (.aload_n 0, 1) := by decide +kernel
theorem dX11_of_9 : decode cX11_of 9 = .ok (.getfield 41, 3) := by decide +kernel
theorem dX11_of_12 : decode cX11_of 12 = .ok (.bipush 40, 2) := by decide +kernel
theorem dX11_of_14 : decode cX11_of 14 = .ok (.aload_n 0, 1) := by decide +kernel
theorem dX11_of_15 : decode cX11_of 15 = .ok (.getfield 142, 3) := by decide +kernel
theorem dX11_of_18 : decode cX11_of 18 = .ok (.imul, 1) := by decide +kernel
theorem dX11_of_19 : decode cX11_of 19 = .ok (.iload_n 1, 1) := by decide +kernel
theorem dX11_of_20 : decode cX11_of 20 = .ok (.iadd, 1) := by decide +kernel
theorem dX11_of_21 : decode cX11_of 21 = .ok (.iaload, 1) := by decide +kernel
theorem dX11_of_22 : decode cX11_of 22 = .ok (.goto 5, 3) := by decide +kernel
theorem dX11_of_25 : decode cX11_of 25 = .ok (.ldc 92, 2) := by decide +kernel
theorem dX11_of_27 : decode cX11_of 27 = .ok (.ireturn, 1) := by decide +kernel
theorem dX11_column_0 : decode cX11_column 0 = .ok (.aload_n 0, 1) := by decide +kernel
theorem dX11_column_1 : decode cX11_column 1 = .ok (.iload_n 1, 1) := by decide +kernel
theorem dX11_column_2 : decode cX11_column 2 = .ok (.invokevirtual 149, 3) := by decide +kernel
theorem dX11_column_5 : decode cX11_column 5 = .ok (.ifCond .eq 20, 3) := by decide +kernel
theorem dX11_column_8 : decode cX11_column 8 = .ok (.aload_n 0, 1) := by decide +kernel
theorem dX11_column_9 : decode cX11_column 9 = .ok (.getfield 47, 3) := by decide +kernel
theorem dX11_column_12 : decode cX11_column 12 = .ok (.bipush 40, 2) := by decide +kernel
theorem dX11_column_14 : decode cX11_column 14 = .ok (.aload_n 0, 1) := by decide +kernel
theorem dX11_column_15 : decode cX11_column 15 = .ok (.getfield 142, 3) := by decide +kernel
theorem dX11_column_18 : decode cX11_column 18 = .ok (.imul, 1) := by decide +kernel
theorem dX11_column_19 : decode cX11_column 19 = .ok (.iload_n 1, 1) := by decide +kernel
theorem dX11_column_20 : decode cX11_column 20 = .ok (.iadd, 1) := by decide +kernel
theorem dX11_column_21 : decode cX11_column 21 = .ok (.iaload, 1) := by decide +kernel
theorem dX11_column_22 : decode cX11_column 22 = .ok (.goto 5, 3) := by decide +kernel
theorem dX11_column_25 : decode cX11_column 25 = .ok (.ldc 92, 2) := by decide +kernel
theorem dX11_column_27 : decode cX11_column 27 = .ok (.ireturn, 1) := by decide +kernel
theorem dX11_arcs_0 : decode cX11_arcs 0 = .ok (.aload_n 0, 1) := by decide +kernel
theorem dX11_arcs_1 : decode cX11_arcs 1 = .ok (.iload_n 1, 1) := by decide +kernel
theorem dX11_arcs_2 : decode cX11_arcs 2 = .ok (.invokevirtual 149, 3) := by decide +kernel
theorem dX11_arcs_5 : decode cX11_arcs 5 = .ok (.ifCond .eq 37, 3) := by decide +kernel
theorem dX11_arcs_8 : decode cX11_arcs 8 = .ok (.aload_n 0, 1) := by decide +kernel
theorem dX11_arcs_9 : decode cX11_arcs 9 = .ok (.getfield 50, 3) := by decide +kernel
theorem dX11_arcs_12 : decode cX11_arcs 12 = .ok (.bipush 41, 2) := by decide +kernel
theorem dX11_arcs_14 : decode cX11_arcs 14 = .ok (.aload_n 0, 1) := by decide +kernel
theorem dX11_arcs_15 : decode cX11_arcs 15 = .ok (.getfield 142, 3) := by decide +kernel
theorem dX11_arcs_18 : decode cX11_arcs 18 = .ok (.imul, 1) := by decide +kernel
theorem dX11_arcs_19 : decode cX11_arcs 19 = .ok (.iload_n 1, 1) := by decide +kernel
theorem dX11_arcs_20 : decode cX11_arcs 20 = .ok (.iadd, 1) := by decide +kernel
theorem dX11_arcs_21 : decode cX11_arcs 21 = .ok (.iconst 1, 1) := by decide +kernel
theorem dX11_arcs_22 : decode cX11_arcs 22 = .ok (.iadd, 1) := by decide +kernel
theorem dX11_arcs_23 : decode cX11_arcs 23 = .ok (.iaload, 1) := by decide +kernel
theorem dX11_arcs_24 : decode cX11_arcs 24 = .ok (.aload_n 0, 1) := by decide +kernel
theorem dX11_arcs_25 : decode cX11_arcs 25 = .ok (.getfield 50, 3) := by decide +kernel
theorem dX11_arcs_28 : decode cX11_arcs 28 = .ok (.bipush 41, 2) := by decide +kernel
theorem dX11_arcs_30 : decode cX11_arcs 30 = .ok (.aload_n 0, 1) := by decide +kernel
theorem dX11_arcs_31 : decode cX11_arcs 31 = .ok (.getfield 142, 3) := by decide +kernel
theorem dX11_arcs_34 : decode cX11_arcs 34 = .ok (.imul, 1) := by decide +kernel
theorem dX11_arcs_35 : decode cX11_arcs 35 = .ok (.iload_n 1, 1) := by decide +kernel
theorem dX11_arcs_36 : decode cX11_arcs 36 = .ok (.iadd, 1) := by decide +kernel
theorem dX11_arcs_37 : decode cX11_arcs 37 = .ok (.iaload, 1) := by decide +kernel
theorem dX11_arcs_38 : decode cX11_arcs 38 = .ok (.isub, 1) := by decide +kernel
theorem dX11_arcs_39 : decode cX11_arcs 39 = .ok (.goto 5, 3) := by decide +kernel
theorem dX11_arcs_42 : decode cX11_arcs 42 = .ok (.ldc 92, 2) := by decide +kernel
theorem dX11_arcs_44 : decode cX11_arcs 44 = .ok (.ireturn, 1) := by decide +kernel
theorem dX11_arc_0 : decode cX11_arc 0 = .ok (.aload_n 0, 1) := by decide +kernel
theorem dX11_arc_1 : decode cX11_arc 1 = .ok (.iload_n 1, 1) := by decide +kernel
theorem dX11_arc_2 : decode cX11_arc 2 = .ok (.invokevirtual 149, 3) := by decide +kernel
theorem dX11_arc_5 : decode cX11_arc 5 = .ok (.ifCond .eq 18, 3) := by decide +kernel
theorem dX11_arc_8 : decode cX11_arc 8 = .ok (.iload_n 2, 1) := by decide +kernel
theorem dX11_arc_9 : decode cX11_arc 9 = .ok (.iconst 0, 1) := by decide +kernel
theorem dX11_arc_10 : decode cX11_arc 10 = .ok (.aload_n 0, 1) := by decide +kernel
theorem dX11_arc_11 : decode cX11_arc 11 = .ok (.iload_n 1, 1) := by decide +kernel
theorem dX11_arc_12 : decode cX11_arc 12 = .ok (.invokevirtual 152, 3) := by decide +kernel
theorem dX11_arc_15 : decode cX11_arc 15 = .ok (.iconst 1, 1) := by decide +kernel
theorem dX11_arc_16 : decode cX11_arc 16 = .ok (.isub, 1) := by decide +kernel
theorem dX11_arc_17 : decode cX11_arc 17 = .ok (.invokestatic 81, 3) := by decide +kernel
theorem dX11_arc_20 : decode cX11_arc 20 = .ok (.ifCond .ne 6, 3) := by decide +kernel
theorem dX11_arc_23 : decode cX11_arc 23 = .ok (.ldc 92, 2) := by decide +kernel
theorem dX11_arc_25 : decode cX11_arc 25 = .ok (.ireturn, 1) := by decide +kernel
theorem dX11_arc_26 : decode cX11_arc 26 = .ok (.sipush 240, 3) := by decide +kernel
theorem dX11_arc_29 : decode cX11_arc 29 = .ok (.aload_n 0, 1) := by decide +kernel
theorem dX11_arc_30 : decode cX11_arc 30 = .ok (.getfield 142, 3) := by decide +kernel
theorem dX11_arc_33 : decode cX11_arc 33 = .ok (.imul, 1) := by decide +kernel
theorem dX11_arc_34 : decode cX11_arc 34 = .ok (.aload_n 0, 1) := by decide +kernel
theorem dX11_arc_35 : decode cX11_arc 35 = .ok (.getfield 50, 3) := by decide +kernel
theorem dX11_arc_38 : decode cX11_arc 38 = .ok (.bipush 41, 2) := by decide +kernel
theorem dX11_arc_40 : decode cX11_arc 40 = .ok (.aload_n 0, 1) := by decide +kernel
theorem dX11_arc_41 : decode cX11_arc 41 = .ok (.getfield 142, 3) := by decide +kernel
theorem dX11_arc_44 : decode cX11_arc 44 = .ok (.imul, 1) := by decide +kernel
theorem dX11_arc_45 : decode cX11_arc 45 = .ok (.iload_n 1, 1) := by decide +kernel
theorem dX11_arc_46 : decode cX11_arc 46 = .ok (.iadd, 1) := by decide +kernel
theorem dX11_arc_47 : decode cX11_arc 47 = .ok (.iaload, 1) := by decide +kernel
theorem dX11_arc_48 : decode cX11_arc 48 = .ok (.iadd, 1) := by decide +kernel
theorem dX11_arc_49 : decode cX11_arc 49 = .ok (.iload_n 2, 1) := by decide +kernel
theorem dX11_arc_50 : decode cX11_arc 50 = .ok (.iadd, 1) := by decide +kernel
theorem dX11_arc_51 : decode cX11_arc 51 = .ok (.istore 4, 2) := by decide +kernel
theorem dX11_arc_53 : decode cX11_arc 53 = .ok (.iload_n 3, 1) := by decide +kernel
theorem dX11_arc_54 : decode cX11_arc 54 = .ok (.ifCond .ne 13, 3) := by decide +kernel
theorem dX11_arc_57 : decode cX11_arc 57 = .ok (.aload_n 0, 1) := by decide +kernel
theorem dX11_arc_58 : decode cX11_arc 58 = .ok (.getfield 56, 3) := by decide +kernel
theorem dX11_arc_61 : decode cX11_arc 61 = .ok (.iload 4, 2) := by decide +kernel
theorem dX11_arc_63 : decode cX11_arc 63 = .ok (.iaload, 1) := by decide +kernel
theorem dX11_arc_64 : decode cX11_arc 64 = .ok (.goto 43, 3) := by decide +kernel
theorem dX11_arc_67 : decode cX11_arc 67 = .ok (.iload_n 3, 1) := by decide +kernel
theorem dX11_arc_68 : decode cX11_arc 68 = .ok (.iconst 1, 1) := by decide +kernel
theorem dX11_arc_69 : decode cX11_arc 69 = .ok (.if_icmp .ne 13, 3) := by decide +kernel
theorem dX11_arc_72 : decode cX11_arc 72 = .ok (.aload_n 0, 1) := by decide +kernel
theorem dX11_arc_73 : decode cX11_arc 73 = .ok (.getfield 59, 3) := by decide +kernel
theorem dX11_arc_76 : decode cX11_arc 76 = .ok (.iload 4, 2) := by decide +kernel
theorem dX11_arc_78 : decode cX11_arc 78 = .ok (.iaload, 1) := by decide +kernel
theorem dX11_arc_79 : decode cX11_arc 79 = .ok (.goto 28, 3) := by decide +kernel
theorem dX11_arc_82 : decode cX11_arc 82 = .ok (.iload_n 3, 1) := by decide +kernel
theorem dX11_arc_83 : decode cX11_arc 83 = .ok (.iconst 2, 1) := by decide +kernel
theorem dX11_arc_84 : decode cX11_arc 84 = .ok (.if_icmp .ne 21, 3) := by decide +kernel
theorem dX11_arc_87 : decode cX11_arc 87 = .ok (.aload_n 0, 1) := by decide +kernel
theorem dX11_arc_88 : decode cX11_arc 88 = .ok (.getfield 62, 3) := by decide +kernel
theorem dX11_arc_91 : decode cX11_arc 91 = .ok (.iload 4, 2) := by decide +kernel
theorem dX11_arc_93 : decode cX11_arc 93 = .ok (.baload, 1) := by decide +kernel
theorem dX11_arc_94 : decode cX11_arc 94 = .ok (.ifCond .eq 7, 3) := by decide +kernel
theorem dX11_arc_97 : decode cX11_arc 97 = .ok (.iconst 1, 1) := by decide +kernel
theorem dX11_arc_98 : decode cX11_arc 98 = .ok (.goto 9, 3) := by decide +kernel
theorem dX11_arc_101 : decode cX11_arc 101 = .ok (.iconst 0, 1) := by decide +kernel
theorem dX11_arc_102 : decode cX11_arc 102 = .ok (.goto 5, 3) := by decide +kernel
theorem dX11_arc_105 : decode cX11_arc 105 = .ok (.ldc 85, 2) := by decide +kernel
theorem dX11_arc_107 : decode cX11_arc 107 = .ok (.ireturn, 1) := by decide +kernel
theorem dX11_way_0 : decode cX11_way 0 = .ok (.aload_n 0, 1) := by decide +kernel
theorem dX11_way_1 : decode cX11_way 1 = .ok (.iload_n 1, 1) := by decide +kernel
theorem dX11_way_2 : decode cX11_way 2 = .ok (.invokevirtual 149, 3) := by decide +kernel
theorem dX11_way_5 : decode cX11_way 5 = .ok (.ifCond .eq 11, 3) := by decide +kernel
theorem dX11_way_8 : decode cX11_way 8 = .ok (.aload_n 0, 1) := by decide +kernel
theorem dX11_way_9 : decode cX11_way 9 = .ok (.iload_n 2, 1) := by decide +kernel
theorem dX11_way_10 : decode cX11_way 10 = .ok (.invokevirtual 149, 3) := by decide +kernel
theorem dX11_way_13 : decode cX11_way 13 = .ok (.ifCond .ne 6, 3) := by decide +kernel
theorem dX11_way_16 : decode cX11_way 16 = .ok (.ldc 92, 2) := by decide +kernel
theorem dX11_way_18 : decode cX11_way 18 = .ok (.ireturn, 1) := by decide +kernel
theorem dX11_way_19 : decode cX11_way 19 = .ok (.iconst 0, 1) := by decide +kernel
theorem dX11_way_20 : decode cX11_way 20 = .ok (.istore_n 3, 1) := by decide +kernel
theorem dX11_way_21 : decode cX11_way 21 = .ok (.iload_n 3, 1) := by decide +kernel
theorem dX11_way_22 : decode cX11_way 22 = .ok (.bipush 40, 2) := by decide +kernel
theorem dX11_way_24 : decode cX11_way 24 = .ok (.if_icmp .ge 26, 3) := by decide +kernel
theorem dX11_way_27 : decode cX11_way 27 = .ok (.aload_n 0, 1) := by decide +kernel
theorem dX11_way_28 : decode cX11_way 28 = .ok (.getfield 71, 3) := by decide +kernel
theorem dX11_way_31 : decode cX11_way 31 = .ok (.iload_n 3, 1) := by decide +kernel
theorem dX11_way_32 : decode cX11_way 32 = .ok (.iload_n 3, 1) := by decide +kernel
theorem dX11_way_33 : decode cX11_way 33 = .ok (.iload_n 1, 1) := by decide +kernel
theorem dX11_way_34 : decode cX11_way 34 = .ok (.if_icmp .ne 7, 3) := by decide +kernel
theorem dX11_way_37 : decode cX11_way 37 = .ok (.iconst 0, 1) := by decide +kernel
theorem dX11_way_38 : decode cX11_way 38 = .ok (.goto 5, 3) := by decide +kernel
theorem dX11_way_41 : decode cX11_way 41 = .ok (.ldc 87, 2) := by decide +kernel
theorem dX11_way_43 : decode cX11_way 43 = .ok (.iastore, 1) := by decide +kernel
theorem dX11_way_44 : decode cX11_way 44 = .ok (.iinc 3 1, 3) := by decide +kernel
theorem dX11_way_47 : decode cX11_way 47 = .ok (.goto (-26), 3) := by decide +kernel
theorem dX11_way_50 : decode cX11_way 50 = .ok (.iconst 0, 1) := by decide +kernel
theorem dX11_way_51 : decode cX11_way 51 = .ok (.istore_n 3, 1) := by decide +kernel
theorem dX11_way_52 : decode cX11_way 52 = .ok (.iload_n 3, 1) := by decide +kernel
theorem dX11_way_53 : decode cX11_way 53 = .ok (.aload_n 0, 1) := by decide +kernel
theorem dX11_way_54 : decode cX11_way 54 = .ok (.getfield 38, 3) := by decide +kernel
theorem dX11_way_57 : decode cX11_way 57 = .ok (.aload_n 0, 1) := by decide +kernel
theorem dX11_way_58 : decode cX11_way 58 = .ok (.getfield 142, 3) := by decide +kernel
theorem dX11_way_61 : decode cX11_way 61 = .ok (.iaload, 1) := by decide +kernel
theorem dX11_way_62 : decode cX11_way 62 = .ok (.if_icmp .ge 138, 3) := by decide +kernel
theorem dX11_way_65 : decode cX11_way 65 = .ok (.iconst 0, 1) := by decide +kernel
theorem dX11_way_66 : decode cX11_way 66 = .ok (.istore 4, 2) := by decide +kernel
theorem dX11_way_68 : decode cX11_way 68 = .ok (.iload 4, 2) := by decide +kernel
theorem dX11_way_70 : decode cX11_way 70 = .ok (.aload_n 0, 1) := by decide +kernel
theorem dX11_way_71 : decode cX11_way 71 = .ok (.getfield 38, 3) := by decide +kernel
theorem dX11_way_74 : decode cX11_way 74 = .ok (.aload_n 0, 1) := by decide +kernel
theorem dX11_way_75 : decode cX11_way 75 = .ok (.getfield 142, 3) := by decide +kernel
theorem dX11_way_78 : decode cX11_way 78 = .ok (.iaload, 1) := by decide +kernel
theorem dX11_way_79 : decode cX11_way 79 = .ok (.if_icmp .ge 115, 3) := by decide +kernel
theorem dX11_way_82 : decode cX11_way 82 = .ok (.aload_n 0, 1) := by decide +kernel
theorem dX11_way_83 : decode cX11_way 83 = .ok (.getfield 50, 3) := by decide +kernel
theorem dX11_way_86 : decode cX11_way 86 = .ok (.bipush 41, 2) := by decide +kernel
theorem dX11_way_88 : decode cX11_way 88 = .ok (.aload_n 0, 1) := by decide +kernel
theorem dX11_way_89 : decode cX11_way 89 = .ok (.getfield 142, 3) := by decide +kernel
theorem dX11_way_92 : decode cX11_way 92 = .ok (.imul, 1) := by decide +kernel
theorem dX11_way_93 : decode cX11_way 93 = .ok (.iload 4, 2) := by decide +kernel
theorem dX11_way_95 : decode cX11_way 95 = .ok (.iadd, 1) := by decide +kernel
theorem dX11_way_96 : decode cX11_way 96 = .ok (.iaload, 1) := by decide +kernel
theorem dX11_way_97 : decode cX11_way 97 = .ok (.istore 5, 2) := by decide +kernel
theorem dX11_way_99 : decode cX11_way 99 = .ok (.iload 5, 2) := by decide +kernel
theorem dX11_way_101 : decode cX11_way 101 = .ok (.aload_n 0, 1) := by decide +kernel
theorem dX11_way_102 : decode cX11_way 102 = .ok (.getfield 50, 3) := by decide +kernel
theorem dX11_way_105 : decode cX11_way 105 = .ok (.bipush 41, 2) := by decide +kernel
theorem dX11_way_107 : decode cX11_way 107 = .ok (.aload_n 0, 1) := by decide +kernel
theorem dX11_way_108 : decode cX11_way 108 = .ok (.getfield 142, 3) := by decide +kernel
theorem dX11_way_111 : decode cX11_way 111 = .ok (.imul, 1) := by decide +kernel
theorem dX11_way_112 : decode cX11_way 112 = .ok (.iload 4, 2) := by decide +kernel
theorem dX11_way_114 : decode cX11_way 114 = .ok (.iadd, 1) := by decide +kernel
theorem dX11_way_115 : decode cX11_way 115 = .ok (.iconst 1, 1) := by decide +kernel
theorem dX11_way_116 : decode cX11_way 116 = .ok (.iadd, 1) := by decide +kernel
theorem dX11_way_117 : decode cX11_way 117 = .ok (.iaload, 1) := by decide +kernel
theorem dX11_way_118 : decode cX11_way 118 = .ok (.if_icmp .ge 70, 3) := by decide +kernel
theorem dX11_way_121 : decode cX11_way 121 = .ok (.aload_n 0, 1) := by decide +kernel
theorem dX11_way_122 : decode cX11_way 122 = .ok (.getfield 71, 3) := by decide +kernel
theorem dX11_way_125 : decode cX11_way 125 = .ok (.iload 4, 2) := by decide +kernel
theorem dX11_way_127 : decode cX11_way 127 = .ok (.iaload, 1) := by decide +kernel
theorem dX11_way_128 : decode cX11_way 128 = .ok (.iload_n 3, 1) := by decide +kernel
theorem dX11_way_129 : decode cX11_way 129 = .ok (.if_icmp .ne 59, 3) := by decide +kernel
theorem dX11_way_132 : decode cX11_way 132 = .ok (.aload_n 0, 1) := by decide +kernel
theorem dX11_way_133 : decode cX11_way 133 = .ok (.getfield 56, 3) := by decide +kernel
theorem dX11_way_136 : decode cX11_way 136 = .ok (.sipush 240, 3) := by decide +kernel
theorem dX11_way_139 : decode cX11_way 139 = .ok (.aload_n 0, 1) := by decide +kernel
theorem dX11_way_140 : decode cX11_way 140 = .ok (.getfield 142, 3) := by decide +kernel
theorem dX11_way_143 : decode cX11_way 143 = .ok (.imul, 1) := by decide +kernel
theorem dX11_way_144 : decode cX11_way 144 = .ok (.iload 5, 2) := by decide +kernel
theorem dX11_way_146 : decode cX11_way 146 = .ok (.iadd, 1) := by decide +kernel
theorem dX11_way_147 : decode cX11_way 147 = .ok (.iaload, 1) := by decide +kernel
theorem dX11_way_148 : decode cX11_way 148 = .ok (.istore 6, 2) := by decide +kernel
theorem dX11_way_150 : decode cX11_way 150 = .ok (.aload_n 0, 1) := by decide +kernel
theorem dX11_way_151 : decode cX11_way 151 = .ok (.getfield 71, 3) := by decide +kernel
theorem dX11_way_154 : decode cX11_way 154 = .ok (.iload 6, 2) := by decide +kernel
theorem dX11_way_156 : decode cX11_way 156 = .ok (.aload_n 0, 1) := by decide +kernel
theorem dX11_way_157 : decode cX11_way 157 = .ok (.getfield 71, 3) := by decide +kernel
theorem dX11_way_160 : decode cX11_way 160 = .ok (.iload 6, 2) := by decide +kernel
theorem dX11_way_162 : decode cX11_way 162 = .ok (.iaload, 1) := by decide +kernel
theorem dX11_way_163 : decode cX11_way 163 = .ok (.ldc 87, 2) := by decide +kernel
theorem dX11_way_165 : decode cX11_way 165 = .ok (.if_icmp .ne 9, 3) := by decide +kernel
theorem dX11_way_168 : decode cX11_way 168 = .ok (.iload_n 3, 1) := by decide +kernel
theorem dX11_way_169 : decode cX11_way 169 = .ok (.iconst 1, 1) := by decide +kernel
theorem dX11_way_170 : decode cX11_way 170 = .ok (.iadd, 1) := by decide +kernel
theorem dX11_way_171 : decode cX11_way 171 = .ok (.goto 10, 3) := by decide +kernel
theorem dX11_way_174 : decode cX11_way 174 = .ok (.aload_n 0, 1) := by decide +kernel
theorem dX11_way_175 : decode cX11_way 175 = .ok (.getfield 71, 3) := by decide +kernel
theorem dX11_way_178 : decode cX11_way 178 = .ok (.iload 6, 2) := by decide +kernel
theorem dX11_way_180 : decode cX11_way 180 = .ok (.iaload, 1) := by decide +kernel
theorem dX11_way_181 : decode cX11_way 181 = .ok (.iastore, 1) := by decide +kernel
theorem dX11_way_182 : decode cX11_way 182 = .ok (.iinc 5 1, 3) := by decide +kernel
theorem dX11_way_185 : decode cX11_way 185 = .ok (.goto (-86), 3) := by decide +kernel
theorem dX11_way_188 : decode cX11_way 188 = .ok (.iinc 4 1, 3) := by decide +kernel
theorem dX11_way_191 : decode cX11_way 191 = .ok (.goto (-123), 3) := by decide +kernel
theorem dX11_way_194 : decode cX11_way 194 = .ok (.iinc 3 1, 3) := by decide +kernel
theorem dX11_way_197 : decode cX11_way 197 = .ok (.goto (-145), 3) := by decide +kernel
theorem dX11_way_200 : decode cX11_way 200 = .ok (.aload_n 0, 1) := by decide +kernel
theorem dX11_way_201 : decode cX11_way 201 = .ok (.getfield 71, 3) := by decide +kernel
theorem dX11_way_204 : decode cX11_way 204 = .ok (.iload_n 2, 1) := by decide +kernel
theorem dX11_way_205 : decode cX11_way 205 = .ok (.iaload, 1) := by decide +kernel
theorem dX11_way_206 : decode cX11_way 206 = .ok (.ireturn, 1) := by decide +kernel
theorem dX11_holes_0 : decode cX11_holes 0 = .ok (.aload_n 0, 1) := by decide +kernel
theorem dX11_holes_1 : decode cX11_holes 1 = .ok (.getfield 38, 3) := by decide +kernel
theorem dX11_holes_4 : decode cX11_holes 4 = .ok (.aload_n 0, 1) := by decide +kernel
theorem dX11_holes_5 : decode cX11_holes 5 = .ok (.getfield 142, 3) := by decide +kernel
theorem dX11_holes_8 : decode cX11_holes 8 = .ok (.iaload, 1) := by decide +kernel
theorem dX11_holes_9 : decode cX11_holes 9 = .ok (.ifCond .ne 7, 3) := by decide +kernel
theorem dX11_holes_12 : decode cX11_holes 12 = .ok (.iconst 0, 1) := by decide +kernel
theorem dX11_holes_13 : decode cX11_holes 13 = .ok (.goto 12, 3) := by decide +kernel
theorem dX11_holes_16 : decode cX11_holes 16 = .ok (.aload_n 0, 1) := by decide +kernel
theorem dX11_holes_17 : decode cX11_holes 17 = .ok (.getfield 65, 3) := by decide +kernel
theorem dX11_holes_20 : decode cX11_holes 20 = .ok (.aload_n 0, 1) := by decide +kernel
theorem dX11_holes_21 : decode cX11_holes 21 = .ok (.getfield 142, 3) := by decide +kernel
theorem dX11_holes_24 : decode cX11_holes 24 = .ok (.iaload, 1) := by decide +kernel
theorem dX11_holes_25 : decode cX11_holes 25 = .ok (.ireturn, 1) := by decide +kernel
theorem dX11_asked_0 : decode cX11_asked 0 = .ok (.aload_n 0, 1) := by decide +kernel
theorem dX11_asked_1 : decode cX11_asked 1 = .ok (.iload_n 1, 1) := by decide +kernel
theorem dX11_asked_2 : decode cX11_asked 2 = .ok (.invokevirtual 88, 3) := by decide +kernel
theorem dX11_asked_5 : decode cX11_asked 5 = .ok (.ifCond .eq 12, 3) := by decide +kernel
theorem dX11_asked_8 : decode cX11_asked 8 = .ok (.aload_n 0, 1) := by decide +kernel
theorem dX11_asked_9 : decode cX11_asked 9 = .ok (.getfield 29, 3) := by decide +kernel
theorem dX11_asked_12 : decode cX11_asked 12 = .ok (.iload_n 1, 1) := by decide +kernel
theorem dX11_asked_13 : decode cX11_asked 13 = .ok (.iaload, 1) := by decide +kernel
theorem dX11_asked_14 : decode cX11_asked 14 = .ok (.goto 5, 3) := by decide +kernel
theorem dX11_asked_17 : decode cX11_asked 17 = .ok (.ldc 92, 2) := by decide +kernel
theorem dX11_asked_19 : decode cX11_asked 19 = .ok (.ireturn, 1) := by decide +kernel
theorem dX11_tells_0 : decode cX11_tells 0 = .ok (.aload_n 0, 1) := by decide +kernel
theorem dX11_tells_1 : decode cX11_tells 1 = .ok (.iload_n 1, 1) := by decide +kernel
theorem dX11_tells_2 : decode cX11_tells 2 = .ok (.invokevirtual 88, 3) := by decide +kernel
theorem dX11_tells_5 : decode cX11_tells 5 = .ok (.ifCond .ne 6, 3) := by decide +kernel
theorem dX11_tells_8 : decode cX11_tells 8 = .ok (.ldc 92, 2) := by decide +kernel
theorem dX11_tells_10 : decode cX11_tells 10 = .ok (.ireturn, 1) := by decide +kernel
theorem dX11_tells_11 : decode cX11_tells 11 = .ok (.iload_n 2, 1) := by decide +kernel
theorem dX11_tells_12 : decode cX11_tells 12 = .ok (.iconst 0, 1) := by decide +kernel
theorem dX11_tells_13 : decode cX11_tells 13 = .ok (.iconst 2, 1) := by decide +kernel
theorem dX11_tells_14 : decode cX11_tells 14 = .ok (.invokestatic 81, 3) := by decide +kernel
theorem dX11_tells_17 : decode cX11_tells 17 = .ok (.ifCond .ne 6, 3) := by decide +kernel
theorem dX11_tells_20 : decode cX11_tells 20 = .ok (.ldc 85, 2) := by decide +kernel
theorem dX11_tells_22 : decode cX11_tells 22 = .ok (.ireturn, 1) := by decide +kernel
theorem dX11_tells_23 : decode cX11_tells 23 = .ok (.iload_n 2, 1) := by decide +kernel
theorem dX11_tells_24 : decode cX11_tells 24 = .ok (.ifCond .ne 11, 3) := by decide +kernel
theorem dX11_tells_27 : decode cX11_tells 27 = .ok (.aload_n 0, 1) := by decide +kernel
theorem dX11_tells_28 : decode cX11_tells 28 = .ok (.iload_n 1, 1) := by decide +kernel
theorem dX11_tells_29 : decode cX11_tells 29 = .ok (.invokevirtual 117, 3) := by decide +kernel
theorem dX11_tells_32 : decode cX11_tells 32 = .ok (.goto 35, 3) := by decide +kernel
theorem dX11_tells_35 : decode cX11_tells 35 = .ok (.iload_n 2, 1) := by decide +kernel
theorem dX11_tells_36 : decode cX11_tells 36 = .ok (.iconst 1, 1) := by decide +kernel
theorem dX11_tells_37 : decode cX11_tells 37 = .ok (.if_icmp .ne 11, 3) := by decide +kernel
theorem dX11_tells_40 : decode cX11_tells 40 = .ok (.aload_n 0, 1) := by decide +kernel
theorem dX11_tells_41 : decode cX11_tells 41 = .ok (.iload_n 1, 1) := by decide +kernel
theorem dX11_tells_42 : decode cX11_tells 42 = .ok (.invokevirtual 125, 3) := by decide +kernel
theorem dX11_tells_45 : decode cX11_tells 45 = .ok (.goto 22, 3) := by decide +kernel
theorem dX11_tells_48 : decode cX11_tells 48 = .ok (.aload_n 0, 1) := by decide +kernel
theorem dX11_tells_49 : decode cX11_tells 49 = .ok (.getfield 7, 3) := by decide +kernel
theorem dX11_tells_52 : decode cX11_tells 52 = .ok (.iload_n 1, 1) := by decide +kernel
theorem dX11_tells_53 : decode cX11_tells 53 = .ok (.iaload, 1) := by decide +kernel
theorem dX11_tells_54 : decode cX11_tells 54 = .ok (.iconst 2, 1) := by decide +kernel
theorem dX11_tells_55 : decode cX11_tells 55 = .ok (.if_icmp .ne 7, 3) := by decide +kernel
theorem dX11_tells_58 : decode cX11_tells 58 = .ok (.iconst 0, 1) := by decide +kernel
theorem dX11_tells_59 : decode cX11_tells 59 = .ok (.goto 8, 3) := by decide +kernel
theorem dX11_tells_62 : decode cX11_tells 62 = .ok (.aload_n 0, 1) := by decide +kernel
theorem dX11_tells_63 : decode cX11_tells 63 = .ok (.iload_n 1, 1) := by decide +kernel
theorem dX11_tells_64 : decode cX11_tells 64 = .ok (.invokevirtual 128, 3) := by decide +kernel
theorem dX11_tells_67 : decode cX11_tells 67 = .ok (.istore_n 3, 1) := by decide +kernel
theorem dX11_tells_68 : decode cX11_tells 68 = .ok (.iload_n 3, 1) := by decide +kernel
theorem dX11_tells_69 : decode cX11_tells 69 = .ok (.ifCond .le 10, 3) := by decide +kernel
theorem dX11_tells_72 : decode cX11_tells 72 = .ok (.ldc 116, 2) := by decide +kernel
theorem dX11_tells_74 : decode cX11_tells 74 = .ok (.iload_n 3, 1) := by decide +kernel
theorem dX11_tells_75 : decode cX11_tells 75 = .ok (.isub, 1) := by decide +kernel
theorem dX11_tells_76 : decode cX11_tells 76 = .ok (.goto 33, 3) := by decide +kernel
theorem dX11_tells_79 : decode cX11_tells 79 = .ok (.iload_n 2, 1) := by decide +kernel
theorem dX11_tells_80 : decode cX11_tells 80 = .ok (.iconst 2, 1) := by decide +kernel
theorem dX11_tells_81 : decode cX11_tells 81 = .ok (.if_icmp .ge 10, 3) := by decide +kernel
theorem dX11_tells_84 : decode cX11_tells 84 = .ok (.aload_n 0, 1) := by decide +kernel
theorem dX11_tells_85 : decode cX11_tells 85 = .ok (.getfield 98, 3) := by decide +kernel
theorem dX11_tells_88 : decode cX11_tells 88 = .ok (.goto 21, 3) := by decide +kernel
theorem dX11_tells_91 : decode cX11_tells 91 = .ok (.aload_n 0, 1) := by decide +kernel
theorem dX11_tells_92 : decode cX11_tells 92 = .ok (.getfield 7, 3) := by decide +kernel
theorem dX11_tells_95 : decode cX11_tells 95 = .ok (.iload_n 1, 1) := by decide +kernel
theorem dX11_tells_96 : decode cX11_tells 96 = .ok (.iaload, 1) := by decide +kernel
theorem dX11_tells_97 : decode cX11_tells 97 = .ok (.iconst 2, 1) := by decide +kernel
theorem dX11_tells_98 : decode cX11_tells 98 = .ok (.if_icmp .ne 7, 3) := by decide +kernel
theorem dX11_tells_101 : decode cX11_tells 101 = .ok (.iconst 2, 1) := by decide +kernel
theorem dX11_tells_102 : decode cX11_tells 102 = .ok (.goto 7, 3) := by decide +kernel
theorem dX11_tells_105 : decode cX11_tells 105 = .ok (.aload_n 0, 1) := by decide +kernel
theorem dX11_tells_106 : decode cX11_tells 106 = .ok (.getfield 101, 3) := by decide +kernel
theorem dX11_tells_109 : decode cX11_tells 109 = .ok (.ireturn, 1) := by decide +kernel
theorem dX11_is_0 : decode cX11_is 0 = .ok (.aload_n 0, 1) := by decide +kernel
theorem dX11_is_1 : decode cX11_is 1 = .ok (.iload_n 1, 1) := by decide +kernel
theorem dX11_is_2 : decode cX11_is 2 = .ok (.invokevirtual 88, 3) := by decide +kernel
theorem dX11_is_5 : decode cX11_is 5 = .ok (.ifCond .ne 6, 3) := by decide +kernel
theorem dX11_is_8 : decode cX11_is 8 = .ok (.ldc 92, 2) := by decide +kernel
theorem dX11_is_10 : decode cX11_is 10 = .ok (.ireturn, 1) := by decide +kernel
theorem dX11_is_11 : decode cX11_is 11 = .ok (.aload_n 0, 1) := by decide +kernel
theorem dX11_is_12 : decode cX11_is 12 = .ok (.getfield 7, 3) := by decide +kernel
theorem dX11_is_15 : decode cX11_is 15 = .ok (.iload_n 1, 1) := by decide +kernel
theorem dX11_is_16 : decode cX11_is 16 = .ok (.iaload, 1) := by decide +kernel
theorem dX11_is_17 : decode cX11_is 17 = .ok (.istore_n 3, 1) := by decide +kernel
theorem dX11_is_18 : decode cX11_is 18 = .ok (.iload_n 2, 1) := by decide +kernel
theorem dX11_is_19 : decode cX11_is 19 = .ok (.ifCond .ne 16, 3) := by decide +kernel
theorem dX11_is_22 : decode cX11_is 22 = .ok (.iload_n 3, 1) := by decide +kernel
theorem dX11_is_23 : decode cX11_is 23 = .ok (.iconst 2, 1) := by decide +kernel
theorem dX11_is_24 : decode cX11_is 24 = .ok (.if_icmp .eq 7, 3) := by decide +kernel
theorem dX11_is_27 : decode cX11_is 27 = .ok (.iconst 1, 1) := by decide +kernel
theorem dX11_is_28 : decode cX11_is 28 = .ok (.goto 45, 3) := by decide +kernel
theorem dX11_is_31 : decode cX11_is 31 = .ok (.iconst 0, 1) := by decide +kernel
theorem dX11_is_32 : decode cX11_is 32 = .ok (.goto 41, 3) := by decide +kernel
theorem dX11_is_35 : decode cX11_is 35 = .ok (.iload_n 2, 1) := by decide +kernel
theorem dX11_is_36 : decode cX11_is 36 = .ok (.iconst 1, 1) := by decide +kernel
theorem dX11_is_37 : decode cX11_is 37 = .ok (.if_icmp .ne 26, 3) := by decide +kernel
theorem dX11_is_40 : decode cX11_is 40 = .ok (.iload_n 3, 1) := by decide +kernel
theorem dX11_is_41 : decode cX11_is 41 = .ok (.iconst 1, 1) := by decide +kernel
theorem dX11_is_42 : decode cX11_is 42 = .ok (.if_icmp .eq 13, 3) := by decide +kernel
theorem dX11_is_45 : decode cX11_is 45 = .ok (.iload_n 3, 1) := by decide +kernel
theorem dX11_is_46 : decode cX11_is 46 = .ok (.iconst 4, 1) := by decide +kernel
theorem dX11_is_47 : decode cX11_is 47 = .ok (.if_icmp .eq 8, 3) := by decide +kernel
theorem dX11_is_50 : decode cX11_is 50 = .ok (.iload_n 3, 1) := by decide +kernel
theorem dX11_is_51 : decode cX11_is 51 = .ok (.iconst 5, 1) := by decide +kernel
theorem dX11_is_52 : decode cX11_is 52 = .ok (.if_icmp .ne 7, 3) := by decide +kernel
theorem dX11_is_55 : decode cX11_is 55 = .ok (.iconst 1, 1) := by decide +kernel
theorem dX11_is_56 : decode cX11_is 56 = .ok (.goto 17, 3) := by decide +kernel
theorem dX11_is_59 : decode cX11_is 59 = .ok (.iconst 0, 1) := by decide +kernel
theorem dX11_is_60 : decode cX11_is 60 = .ok (.goto 13, 3) := by decide +kernel
theorem dX11_is_63 : decode cX11_is 63 = .ok (.iload_n 3, 1) := by decide +kernel
theorem dX11_is_64 : decode cX11_is 64 = .ok (.iconst 2, 1) := by decide +kernel
theorem dX11_is_65 : decode cX11_is 65 = .ok (.if_icmp .ne 7, 3) := by decide +kernel
theorem dX11_is_68 : decode cX11_is 68 = .ok (.iconst 1, 1) := by decide +kernel
theorem dX11_is_69 : decode cX11_is 69 = .ok (.goto 4, 3) := by decide +kernel
theorem dX11_is_72 : decode cX11_is 72 = .ok (.iconst 0, 1) := by decide +kernel
theorem dX11_is_73 : decode cX11_is 73 = .ok (.istore 4, 2) := by decide +kernel
theorem dX11_is_75 : decode cX11_is 75 = .ok (.iload_n 2, 1) := by decide +kernel
theorem dX11_is_76 : decode cX11_is 76 = .ok (.iconst 0, 1) := by decide +kernel
theorem dX11_is_77 : decode cX11_is 77 = .ok (.iconst 2, 1) := by decide +kernel
theorem dX11_is_78 : decode cX11_is 78 = .ok (.invokestatic 81, 3) := by decide +kernel
theorem dX11_is_81 : decode cX11_is 81 = .ok (.ifCond .ne 8, 3) := by decide +kernel
theorem dX11_is_84 : decode cX11_is 84 = .ok (.ldc 85, 2) := by decide +kernel
theorem dX11_is_86 : decode cX11_is 86 = .ok (.goto 13, 3) := by decide +kernel
theorem dX11_is_89 : decode cX11_is 89 = .ok (.iload 4, 2) := by decide +kernel
theorem dX11_is_91 : decode cX11_is 91 = .ok (.ifCond .eq 7, 3) := by decide +kernel
theorem dX11_is_94 : decode cX11_is 94 = .ok (.iconst 1, 1) := by decide +kernel
theorem dX11_is_95 : decode cX11_is 95 = .ok (.goto 4, 3) := by decide +kernel
theorem dX11_is_98 : decode cX11_is 98 = .ok (.iconst 0, 1) := by decide +kernel
theorem dX11_is_99 : decode cX11_is 99 = .ok (.ireturn, 1) := by decide +kernel
theorem dX11_count_0 : decode cX11_count 0 = .ok (.iload_n 1, 1) := by decide +kernel
theorem dX11_count_1 : decode cX11_count 1 = .ok (.tableswitch 77 0 3 #[31, 36, 46, 72], 31) := by decide +kernel
theorem dX11_count_32 : decode cX11_count 32 = .ok (.aload_n 0, 1) := by decide +kernel
theorem dX11_count_33 : decode cX11_count 33 = .ok (.getfield 77, 3) := by decide +kernel
theorem dX11_count_36 : decode cX11_count 36 = .ok (.ireturn, 1) := by decide +kernel
theorem dX11_count_37 : decode cX11_count 37 = .ok (.aload_n 0, 1) := by decide +kernel
theorem dX11_count_38 : decode cX11_count 38 = .ok (.getfield 38, 3) := by decide +kernel
theorem dX11_count_41 : decode cX11_count 41 = .ok (.aload_n 0, 1) := by decide +kernel
theorem dX11_count_42 : decode cX11_count 42 = .ok (.getfield 142, 3) := by decide +kernel
theorem dX11_count_45 : decode cX11_count 45 = .ok (.iaload, 1) := by decide +kernel
theorem dX11_count_46 : decode cX11_count 46 = .ok (.ireturn, 1) := by decide +kernel
theorem dX11_count_47 : decode cX11_count 47 = .ok (.aload_n 0, 1) := by decide +kernel
theorem dX11_count_48 : decode cX11_count 48 = .ok (.getfield 38, 3) := by decide +kernel
theorem dX11_count_51 : decode cX11_count 51 = .ok (.aload_n 0, 1) := by decide +kernel
theorem dX11_count_52 : decode cX11_count 52 = .ok (.getfield 142, 3) := by decide +kernel
theorem dX11_count_55 : decode cX11_count 55 = .ok (.iaload, 1) := by decide +kernel
theorem dX11_count_56 : decode cX11_count 56 = .ok (.ifCond .ne 7, 3) := by decide +kernel
theorem dX11_count_59 : decode cX11_count 59 = .ok (.iconst 0, 1) := by decide +kernel
theorem dX11_count_60 : decode cX11_count 60 = .ok (.goto 12, 3) := by decide +kernel
theorem dX11_count_63 : decode cX11_count 63 = .ok (.aload_n 0, 1) := by decide +kernel
theorem dX11_count_64 : decode cX11_count 64 = .ok (.getfield 53, 3) := by decide +kernel
theorem dX11_count_67 : decode cX11_count 67 = .ok (.aload_n 0, 1) := by decide +kernel
theorem dX11_count_68 : decode cX11_count 68 = .ok (.getfield 142, 3) := by decide +kernel
theorem dX11_count_71 : decode cX11_count 71 = .ok (.iaload, 1) := by decide +kernel
theorem dX11_count_72 : decode cX11_count 72 = .ok (.ireturn, 1) := by decide +kernel
theorem dX11_count_73 : decode cX11_count 73 = .ok (.aload_n 0, 1) := by decide +kernel
theorem dX11_count_74 : decode cX11_count 74 = .ok (.getfield 113, 3) := by decide +kernel
theorem dX11_count_77 : decode cX11_count 77 = .ok (.ireturn, 1) := by decide +kernel
theorem dX11_count_78 : decode cX11_count 78 = .ok (.ldc 85, 2) := by decide +kernel
theorem dX11_count_80 : decode cX11_count 80 = .ok (.ireturn, 1) := by decide +kernel
theorem dX11_beginAll_0 : decode cX11_beginAll 0 = .ok (.aload_n 0, 1) := by decide +kernel
theorem dX11_beginAll_1 : decode cX11_beginAll 1 = .ok (.iconst 0, 1) := by decide +kernel
theorem dX11_beginAll_2 : decode cX11_beginAll 2 = .ok (.putfield 77, 3) := by decide +kernel
theorem dX11_beginAll_5 : decode cX11_beginAll 5 = .ok (.aload_n 0, 1) := by decide +kernel
theorem dX11_beginAll_6 : decode cX11_beginAll 6 = .ok (.getfield 38, 3) := by decide +kernel
theorem dX11_beginAll_9 : decode cX11_beginAll 9 = .ok (.aload_n 0, 1) := by decide +kernel
theorem dX11_beginAll_10 : decode cX11_beginAll 10 = .ok (.getfield 142, 3) := by decide +kernel
theorem dX11_beginAll_13 : decode cX11_beginAll 13 = .ok (.iconst 0, 1) := by decide +kernel
theorem dX11_beginAll_14 : decode cX11_beginAll 14 = .ok (.iastore, 1) := by decide +kernel
theorem dX11_beginAll_15 : decode cX11_beginAll 15 = .ok (.aload_n 0, 1) := by decide +kernel
theorem dX11_beginAll_16 : decode cX11_beginAll 16 = .ok (.iconst 0, 1) := by decide +kernel
theorem dX11_beginAll_17 : decode cX11_beginAll 17 = .ok (.putfield 113, 3) := by decide +kernel
theorem dX11_beginAll_20 : decode cX11_beginAll 20 = .ok (.aload_n 0, 1) := by decide +kernel
theorem dX11_beginAll_21 : decode cX11_beginAll 21 = .ok (.iconst 0, 1) := by decide +kernel
theorem dX11_beginAll_22 : decode cX11_beginAll 22 = .ok (.putfield 110, 3) := by decide +kernel
theorem dX11_beginAll_25 : decode cX11_beginAll 25 = .ok (.return_, 1) := by decide +kernel
theorem dX11_clear_0 : decode cX11_clear 0 = .ok (.aload_n 0, 1) := by decide +kernel
theorem dX11_clear_1 : decode cX11_clear 1 = .ok (.getfield 77, 3) := by decide +kernel
theorem dX11_clear_4 : decode cX11_clear 4 = .ok (.istore_n 1, 1) := by decide +kernel
theorem dX11_clear_5 : decode cX11_clear 5 = .ok (.aload_n 0, 1) := by decide +kernel
theorem dX11_clear_6 : decode cX11_clear 6 = .ok (.invokevirtual 74, 3) := by decide +kernel
theorem dX11_clear_9 : decode cX11_clear 9 = .ok (.iload_n 1, 1) := by decide +kernel
theorem dX11_clear_10 : decode cX11_clear 10 = .ok (.ireturn, 1) := by decide +kernel
theorem dJ7_fill_53178_0 : decode cJ7_fill_53178 0 = .ok (.iconst 0, 1) := by decide +kernel
theorem dJ7_fill_53178_1 : decode cJ7_fill_53178 1 = .ok (.istore_n 2, 1) := by decide +kernel
theorem dJ7_fill_53178_2 : decode cJ7_fill_53178 2 = .ok (.aload_n 0, 1) := by decide +kernel
theorem dJ7_fill_53178_3 : decode cJ7_fill_53178 3 = .ok (.arraylength, 1) := by decide +kernel
theorem dJ7_fill_53178_4 : decode cJ7_fill_53178 4 = .ok (.istore_n 3, 1) := by decide +kernel
theorem dJ7_fill_53178_5 : decode cJ7_fill_53178 5 = .ok (.iload_n 2, 1) := by decide +kernel
theorem dJ7_fill_53178_6 : decode cJ7_fill_53178 6 = .ok (.iload_n 3, 1) := by decide +kernel
theorem dJ7_fill_53178_7 : decode cJ7_fill_53178 7 = .ok (.if_icmp .ge 13, 3) := by decide +kernel
theorem dJ7_fill_53178_10 : decode cJ7_fill_53178 10 = .ok (.aload_n 0, 1) := by decide +kernel
theorem dJ7_fill_53178_11 : decode cJ7_fill_53178 11 = .ok (.iload_n 2, 1) := by decide +kernel
theorem dJ7_fill_53178_12 : decode cJ7_fill_53178 12 = .ok (.iload_n 1, 1) := by decide +kernel
theorem dJ7_fill_53178_13 : decode cJ7_fill_53178 13 = .ok (.iastore, 1) := by decide +kernel
theorem dJ7_fill_53178_14 : decode cJ7_fill_53178 14 = .ok (.iinc 2 1, 3) := by decide +kernel
theorem dJ7_fill_53178_17 : decode cJ7_fill_53178 17 = .ok (.goto (-12), 3) := by decide +kernel
theorem dJ7_fill_53178_20 : decode cJ7_fill_53178 20 = .ok (.return_, 1) := by decide +kernel
theorem dL_law_0 : decode cL_law 0 = .ok (.new 7, 3) := by decide +kernel
theorem dL_law_3 : decode cL_law 3 = .ok (.dup, 1) := by decide +kernel
theorem dL_law_4 : decode cL_law 4 = .ok (.invokespecial 9, 3) := by decide +kernel
theorem dL_law_7 : decode cL_law 7 = .ok (.astore_n 1, 1) := by decide +kernel
theorem dL_law_8 : decode cL_law 8 = .ok (.new 10, 3) := by decide +kernel
theorem dL_law_11 : decode cL_law 11 = .ok (.dup, 1) := by decide +kernel
theorem dL_law_12 : decode cL_law 12 = .ok (.invokespecial 12, 3) := by decide +kernel
theorem dL_law_15 : decode cL_law 15 = .ok (.astore_n 2, 1) := by decide +kernel
theorem dL_law_16 : decode cL_law 16 = .ok (.iconst 0, 1) := by decide +kernel
theorem dL_law_17 : decode cL_law 17 = .ok (.istore_n 3, 1) := by decide +kernel
theorem dL_law_18 : decode cL_law 18 = .ok (.iload_n 3, 1) := by decide +kernel
theorem dL_law_19 : decode cL_law 19 = .ok (.aload_n 0, 1) := by decide +kernel
theorem dL_law_20 : decode cL_law 20 = .ok (.arraylength, 1) := by decide +kernel
theorem dL_law_21 : decode cL_law 21 = .ok (.bipush 6, 2) := by decide +kernel
theorem dL_law_23 : decode cL_law 23 = .ok (.isub, 1) := by decide +kernel
theorem dL_law_24 : decode cL_law 24 = .ok (.if_icmp .gt 789, 3) := by decide +kernel
theorem dL_law_27 : decode cL_law 27 = .ok (.aload_n 0, 1) := by decide +kernel
theorem dL_law_28 : decode cL_law 28 = .ok (.iload_n 3, 1) := by decide +kernel
theorem dL_law_29 : decode cL_law 29 = .ok (.iaload, 1) := by decide +kernel
theorem dL_law_30 : decode cL_law 30 = .ok (.bipush 31, 2) := by decide +kernel
theorem dL_law_32 : decode cL_law 32 = .ok (.iand, 1) := by decide +kernel
theorem dL_law_33 : decode cL_law 33 = .ok (.tableswitch 774 0 20 #[99, 142, 175, 208, 241, 284, 333, 396, 445, 468, 491, 514, 537, 560, 603, 636, 649, 672, 705, 738, 761], 99) := by decide +kernel
theorem dL_law_132 : decode cL_law 132 = .ok (.aload_n 1, 1) := by decide +kernel
theorem dL_law_133 : decode cL_law 133 = .ok (.aload_n 0, 1) := by decide +kernel
theorem dL_law_134 : decode cL_law 134 = .ok (.iload_n 3, 1) := by decide +kernel
theorem dL_law_135 : decode cL_law 135 = .ok (.iconst 1, 1) := by decide +kernel
theorem dL_law_136 : decode cL_law 136 = .ok (.iadd, 1) := by decide +kernel
theorem dL_law_137 : decode cL_law 137 = .ok (.iaload, 1) := by decide +kernel
theorem dL_law_138 : decode cL_law 138 = .ok (.aload_n 0, 1) := by decide +kernel
theorem dL_law_139 : decode cL_law 139 = .ok (.iload_n 3, 1) := by decide +kernel
theorem dL_law_140 : decode cL_law 140 = .ok (.iconst 2, 1) := by decide +kernel
theorem dL_law_141 : decode cL_law 141 = .ok (.iadd, 1) := by decide +kernel
theorem dL_law_142 : decode cL_law 142 = .ok (.iaload, 1) := by decide +kernel
theorem dL_law_143 : decode cL_law 143 = .ok (.aload_n 0, 1) := by decide +kernel
theorem dL_law_144 : decode cL_law 144 = .ok (.iload_n 3, 1) := by decide +kernel
theorem dL_law_145 : decode cL_law 145 = .ok (.iconst 3, 1) := by decide +kernel
theorem dL_law_146 : decode cL_law 146 = .ok (.iadd, 1) := by decide +kernel
theorem dL_law_147 : decode cL_law 147 = .ok (.iaload, 1) := by decide +kernel
theorem dL_law_148 : decode cL_law 148 = .ok (.invokevirtual 13, 3) := by decide +kernel
theorem dL_law_151 : decode cL_law 151 = .ok (.aload_n 2, 1) := by decide +kernel
theorem dL_law_152 : decode cL_law 152 = .ok (.aload_n 0, 1) := by decide +kernel
theorem dL_law_153 : decode cL_law 153 = .ok (.iload_n 3, 1) := by decide +kernel
theorem dL_law_154 : decode cL_law 154 = .ok (.iconst 1, 1) := by decide +kernel
theorem dL_law_155 : decode cL_law 155 = .ok (.iadd, 1) := by decide +kernel
theorem dL_law_156 : decode cL_law 156 = .ok (.iaload, 1) := by decide +kernel
theorem dL_law_157 : decode cL_law 157 = .ok (.aload_n 0, 1) := by decide +kernel
theorem dL_law_158 : decode cL_law 158 = .ok (.iload_n 3, 1) := by decide +kernel
theorem dL_law_159 : decode cL_law 159 = .ok (.iconst 2, 1) := by decide +kernel
theorem dL_law_160 : decode cL_law 160 = .ok (.iadd, 1) := by decide +kernel
theorem dL_law_161 : decode cL_law 161 = .ok (.iaload, 1) := by decide +kernel
theorem dL_law_162 : decode cL_law 162 = .ok (.aload_n 0, 1) := by decide +kernel
theorem dL_law_163 : decode cL_law 163 = .ok (.iload_n 3, 1) := by decide +kernel
theorem dL_law_164 : decode cL_law 164 = .ok (.iconst 3, 1) := by decide +kernel
theorem dL_law_165 : decode cL_law 165 = .ok (.iadd, 1) := by decide +kernel
theorem dL_law_166 : decode cL_law 166 = .ok (.iaload, 1) := by decide +kernel
theorem dL_law_167 : decode cL_law 167 = .ok (.invokevirtual 17, 3) := by decide +kernel
theorem dL_law_170 : decode cL_law 170 = .ok (.if_icmp .eq 637, 3) := by decide +kernel
theorem dL_law_173 : decode cL_law 173 = .ok (.iconst 0, 1) := by decide +kernel
theorem dL_law_174 : decode cL_law 174 = .ok (.ireturn, 1) := by decide +kernel
theorem dL_law_175 : decode cL_law 175 = .ok (.aload_n 1, 1) := by decide +kernel
theorem dL_law_176 : decode cL_law 176 = .ok (.aload_n 0, 1) := by decide +kernel
theorem dL_law_177 : decode cL_law 177 = .ok (.iload_n 3, 1) := by decide +kernel
theorem dL_law_178 : decode cL_law 178 = .ok (.iconst 1, 1) := by decide +kernel
theorem dL_law_179 : decode cL_law 179 = .ok (.iadd, 1) := by decide +kernel
theorem dL_law_180 : decode cL_law 180 = .ok (.iaload, 1) := by decide +kernel
theorem dL_law_181 : decode cL_law 181 = .ok (.aload_n 0, 1) := by decide +kernel
theorem dL_law_182 : decode cL_law 182 = .ok (.iload_n 3, 1) := by decide +kernel
theorem dL_law_183 : decode cL_law 183 = .ok (.iconst 2, 1) := by decide +kernel
theorem dL_law_184 : decode cL_law 184 = .ok (.iadd, 1) := by decide +kernel
theorem dL_law_185 : decode cL_law 185 = .ok (.iaload, 1) := by decide +kernel
theorem dL_law_186 : decode cL_law 186 = .ok (.invokevirtual 18, 3) := by decide +kernel
theorem dL_law_189 : decode cL_law 189 = .ok (.aload_n 2, 1) := by decide +kernel
theorem dL_law_190 : decode cL_law 190 = .ok (.aload_n 0, 1) := by decide +kernel
theorem dL_law_191 : decode cL_law 191 = .ok (.iload_n 3, 1) := by decide +kernel
theorem dL_law_192 : decode cL_law 192 = .ok (.iconst 1, 1) := by decide +kernel
theorem dL_law_193 : decode cL_law 193 = .ok (.iadd, 1) := by decide +kernel
theorem dL_law_194 : decode cL_law 194 = .ok (.iaload, 1) := by decide +kernel
theorem dL_law_195 : decode cL_law 195 = .ok (.aload_n 0, 1) := by decide +kernel
theorem dL_law_196 : decode cL_law 196 = .ok (.iload_n 3, 1) := by decide +kernel
theorem dL_law_197 : decode cL_law 197 = .ok (.iconst 2, 1) := by decide +kernel
theorem dL_law_198 : decode cL_law 198 = .ok (.iadd, 1) := by decide +kernel
theorem dL_law_199 : decode cL_law 199 = .ok (.iaload, 1) := by decide +kernel
theorem dL_law_200 : decode cL_law 200 = .ok (.invokevirtual 22, 3) := by decide +kernel
theorem dL_law_203 : decode cL_law 203 = .ok (.if_icmp .eq 604, 3) := by decide +kernel
theorem dL_law_206 : decode cL_law 206 = .ok (.iconst 0, 1) := by decide +kernel
theorem dL_law_207 : decode cL_law 207 = .ok (.ireturn, 1) := by decide +kernel
theorem dL_law_208 : decode cL_law 208 = .ok (.aload_n 1, 1) := by decide +kernel
theorem dL_law_209 : decode cL_law 209 = .ok (.aload_n 0, 1) := by decide +kernel
theorem dL_law_210 : decode cL_law 210 = .ok (.iload_n 3, 1) := by decide +kernel
theorem dL_law_211 : decode cL_law 211 = .ok (.iconst 1, 1) := by decide +kernel
theorem dL_law_212 : decode cL_law 212 = .ok (.iadd, 1) := by decide +kernel
theorem dL_law_213 : decode cL_law 213 = .ok (.iaload, 1) := by decide +kernel
theorem dL_law_214 : decode cL_law 214 = .ok (.aload_n 0, 1) := by decide +kernel
theorem dL_law_215 : decode cL_law 215 = .ok (.iload_n 3, 1) := by decide +kernel
theorem dL_law_216 : decode cL_law 216 = .ok (.iconst 2, 1) := by decide +kernel
theorem dL_law_217 : decode cL_law 217 = .ok (.iadd, 1) := by decide +kernel
theorem dL_law_218 : decode cL_law 218 = .ok (.iaload, 1) := by decide +kernel
theorem dL_law_219 : decode cL_law 219 = .ok (.invokevirtual 23, 3) := by decide +kernel
theorem dL_law_222 : decode cL_law 222 = .ok (.aload_n 2, 1) := by decide +kernel
theorem dL_law_223 : decode cL_law 223 = .ok (.aload_n 0, 1) := by decide +kernel
theorem dL_law_224 : decode cL_law 224 = .ok (.iload_n 3, 1) := by decide +kernel
theorem dL_law_225 : decode cL_law 225 = .ok (.iconst 1, 1) := by decide +kernel
theorem dL_law_226 : decode cL_law 226 = .ok (.iadd, 1) := by decide +kernel
theorem dL_law_227 : decode cL_law 227 = .ok (.iaload, 1) := by decide +kernel
theorem dL_law_228 : decode cL_law 228 = .ok (.aload_n 0, 1) := by decide +kernel
theorem dL_law_229 : decode cL_law 229 = .ok (.iload_n 3, 1) := by decide +kernel
theorem dL_law_230 : decode cL_law 230 = .ok (.iconst 2, 1) := by decide +kernel
theorem dL_law_231 : decode cL_law 231 = .ok (.iadd, 1) := by decide +kernel
theorem dL_law_232 : decode cL_law 232 = .ok (.iaload, 1) := by decide +kernel
theorem dL_law_233 : decode cL_law 233 = .ok (.invokevirtual 26, 3) := by decide +kernel
theorem dL_law_236 : decode cL_law 236 = .ok (.if_icmp .eq 571, 3) := by decide +kernel
theorem dL_law_239 : decode cL_law 239 = .ok (.iconst 0, 1) := by decide +kernel
theorem dL_law_240 : decode cL_law 240 = .ok (.ireturn, 1) := by decide +kernel
theorem dL_law_241 : decode cL_law 241 = .ok (.aload_n 1, 1) := by decide +kernel
theorem dL_law_242 : decode cL_law 242 = .ok (.aload_n 0, 1) := by decide +kernel
theorem dL_law_243 : decode cL_law 243 = .ok (.iload_n 3, 1) := by decide +kernel
theorem dL_law_244 : decode cL_law 244 = .ok (.iconst 1, 1) := by decide +kernel
theorem dL_law_245 : decode cL_law 245 = .ok (.iadd, 1) := by decide +kernel
theorem dL_law_246 : decode cL_law 246 = .ok (.iaload, 1) := by decide +kernel
theorem dL_law_247 : decode cL_law 247 = .ok (.aload_n 0, 1) := by decide +kernel
theorem dL_law_248 : decode cL_law 248 = .ok (.iload_n 3, 1) := by decide +kernel
theorem dL_law_249 : decode cL_law 249 = .ok (.iconst 2, 1) := by decide +kernel
theorem dL_law_250 : decode cL_law 250 = .ok (.iadd, 1) := by decide +kernel
theorem dL_law_251 : decode cL_law 251 = .ok (.iaload, 1) := by decide +kernel
theorem dL_law_252 : decode cL_law 252 = .ok (.invokevirtual 27, 3) := by decide +kernel
theorem dL_law_255 : decode cL_law 255 = .ok (.aload_n 2, 1) := by decide +kernel
theorem dL_law_256 : decode cL_law 256 = .ok (.aload_n 0, 1) := by decide +kernel
theorem dL_law_257 : decode cL_law 257 = .ok (.iload_n 3, 1) := by decide +kernel
theorem dL_law_258 : decode cL_law 258 = .ok (.iconst 1, 1) := by decide +kernel
theorem dL_law_259 : decode cL_law 259 = .ok (.iadd, 1) := by decide +kernel
theorem dL_law_260 : decode cL_law 260 = .ok (.iaload, 1) := by decide +kernel
theorem dL_law_261 : decode cL_law 261 = .ok (.aload_n 0, 1) := by decide +kernel
theorem dL_law_262 : decode cL_law 262 = .ok (.iload_n 3, 1) := by decide +kernel
theorem dL_law_263 : decode cL_law 263 = .ok (.iconst 2, 1) := by decide +kernel
theorem dL_law_264 : decode cL_law 264 = .ok (.iadd, 1) := by decide +kernel
theorem dL_law_265 : decode cL_law 265 = .ok (.iaload, 1) := by decide +kernel
theorem dL_law_266 : decode cL_law 266 = .ok (.invokevirtual 30, 3) := by decide +kernel
theorem dL_law_269 : decode cL_law 269 = .ok (.if_icmp .eq 538, 3) := by decide +kernel
theorem dL_law_272 : decode cL_law 272 = .ok (.iconst 0, 1) := by decide +kernel
theorem dL_law_273 : decode cL_law 273 = .ok (.ireturn, 1) := by decide +kernel
theorem dL_law_274 : decode cL_law 274 = .ok (.aload_n 1, 1) := by decide +kernel
theorem dL_law_275 : decode cL_law 275 = .ok (.aload_n 0, 1) := by decide +kernel
theorem dL_law_276 : decode cL_law 276 = .ok (.iload_n 3, 1) := by decide +kernel
theorem dL_law_277 : decode cL_law 277 = .ok (.iconst 1, 1) := by decide +kernel
theorem dL_law_278 : decode cL_law 278 = .ok (.iadd, 1) := by decide +kernel
theorem dL_law_279 : decode cL_law 279 = .ok (.iaload, 1) := by decide +kernel
theorem dL_law_280 : decode cL_law 280 = .ok (.aload_n 0, 1) := by decide +kernel
theorem dL_law_281 : decode cL_law 281 = .ok (.iload_n 3, 1) := by decide +kernel
theorem dL_law_282 : decode cL_law 282 = .ok (.iconst 2, 1) := by decide +kernel
theorem dL_law_283 : decode cL_law 283 = .ok (.iadd, 1) := by decide +kernel
theorem dL_law_284 : decode cL_law 284 = .ok (.iaload, 1) := by decide +kernel
theorem dL_law_285 : decode cL_law 285 = .ok (.aload_n 0, 1) := by decide +kernel
theorem dL_law_286 : decode cL_law 286 = .ok (.iload_n 3, 1) := by decide +kernel
theorem dL_law_287 : decode cL_law 287 = .ok (.iconst 3, 1) := by decide +kernel
theorem dL_law_288 : decode cL_law 288 = .ok (.iadd, 1) := by decide +kernel
theorem dL_law_289 : decode cL_law 289 = .ok (.iaload, 1) := by decide +kernel
theorem dL_law_290 : decode cL_law 290 = .ok (.invokevirtual 31, 3) := by decide +kernel
theorem dL_law_293 : decode cL_law 293 = .ok (.aload_n 2, 1) := by decide +kernel
theorem dL_law_294 : decode cL_law 294 = .ok (.aload_n 0, 1) := by decide +kernel
theorem dL_law_295 : decode cL_law 295 = .ok (.iload_n 3, 1) := by decide +kernel
theorem dL_law_296 : decode cL_law 296 = .ok (.iconst 1, 1) := by decide +kernel
theorem dL_law_297 : decode cL_law 297 = .ok (.iadd, 1) := by decide +kernel
theorem dL_law_298 : decode cL_law 298 = .ok (.iaload, 1) := by decide +kernel
theorem dL_law_299 : decode cL_law 299 = .ok (.aload_n 0, 1) := by decide +kernel
theorem dL_law_300 : decode cL_law 300 = .ok (.iload_n 3, 1) := by decide +kernel
theorem dL_law_301 : decode cL_law 301 = .ok (.iconst 2, 1) := by decide +kernel
theorem dL_law_302 : decode cL_law 302 = .ok (.iadd, 1) := by decide +kernel
theorem dL_law_303 : decode cL_law 303 = .ok (.iaload, 1) := by decide +kernel
theorem dL_law_304 : decode cL_law 304 = .ok (.aload_n 0, 1) := by decide +kernel
theorem dL_law_305 : decode cL_law 305 = .ok (.iload_n 3, 1) := by decide +kernel
theorem dL_law_306 : decode cL_law 306 = .ok (.iconst 3, 1) := by decide +kernel
theorem dL_law_307 : decode cL_law 307 = .ok (.iadd, 1) := by decide +kernel
theorem dL_law_308 : decode cL_law 308 = .ok (.iaload, 1) := by decide +kernel
theorem dL_law_309 : decode cL_law 309 = .ok (.invokevirtual 34, 3) := by decide +kernel
theorem dL_law_312 : decode cL_law 312 = .ok (.if_icmp .eq 495, 3) := by decide +kernel
theorem dL_law_315 : decode cL_law 315 = .ok (.iconst 0, 1) := by decide +kernel
theorem dL_law_316 : decode cL_law 316 = .ok (.ireturn, 1) := by decide +kernel
theorem dL_law_317 : decode cL_law 317 = .ok (.aload_n 1, 1) := by decide +kernel
theorem dL_law_318 : decode cL_law 318 = .ok (.aload_n 0, 1) := by decide +kernel
theorem dL_law_319 : decode cL_law 319 = .ok (.iload_n 3, 1) := by decide +kernel
theorem dL_law_320 : decode cL_law 320 = .ok (.iconst 1, 1) := by decide +kernel
theorem dL_law_321 : decode cL_law 321 = .ok (.iadd, 1) := by decide +kernel
theorem dL_law_322 : decode cL_law 322 = .ok (.iaload, 1) := by decide +kernel
theorem dL_law_323 : decode cL_law 323 = .ok (.aload_n 0, 1) := by decide +kernel
theorem dL_law_324 : decode cL_law 324 = .ok (.iload_n 3, 1) := by decide +kernel
theorem dL_law_325 : decode cL_law 325 = .ok (.iconst 2, 1) := by decide +kernel
theorem dL_law_326 : decode cL_law 326 = .ok (.iadd, 1) := by decide +kernel
theorem dL_law_327 : decode cL_law 327 = .ok (.iaload, 1) := by decide +kernel
theorem dL_law_328 : decode cL_law 328 = .ok (.ifCond .eq 7, 3) := by decide +kernel
theorem dL_law_331 : decode cL_law 331 = .ok (.iconst 1, 1) := by decide +kernel
theorem dL_law_332 : decode cL_law 332 = .ok (.goto 4, 3) := by decide +kernel
theorem dL_law_335 : decode cL_law 335 = .ok (.iconst 0, 1) := by decide +kernel
theorem dL_law_336 : decode cL_law 336 = .ok (.invokevirtual 35, 3) := by decide +kernel
theorem dL_law_339 : decode cL_law 339 = .ok (.aload_n 2, 1) := by decide +kernel
theorem dL_law_340 : decode cL_law 340 = .ok (.aload_n 0, 1) := by decide +kernel
theorem dL_law_341 : decode cL_law 341 = .ok (.iload_n 3, 1) := by decide +kernel
theorem dL_law_342 : decode cL_law 342 = .ok (.iconst 1, 1) := by decide +kernel
theorem dL_law_343 : decode cL_law 343 = .ok (.iadd, 1) := by decide +kernel
theorem dL_law_344 : decode cL_law 344 = .ok (.iaload, 1) := by decide +kernel
theorem dL_law_345 : decode cL_law 345 = .ok (.aload_n 0, 1) := by decide +kernel
theorem dL_law_346 : decode cL_law 346 = .ok (.iload_n 3, 1) := by decide +kernel
theorem dL_law_347 : decode cL_law 347 = .ok (.iconst 2, 1) := by decide +kernel
theorem dL_law_348 : decode cL_law 348 = .ok (.iadd, 1) := by decide +kernel
theorem dL_law_349 : decode cL_law 349 = .ok (.iaload, 1) := by decide +kernel
theorem dL_law_350 : decode cL_law 350 = .ok (.ifCond .eq 7, 3) := by decide +kernel
theorem dL_law_353 : decode cL_law 353 = .ok (.iconst 1, 1) := by decide +kernel
theorem dL_law_354 : decode cL_law 354 = .ok (.goto 4, 3) := by decide +kernel
theorem dL_law_357 : decode cL_law 357 = .ok (.iconst 0, 1) := by decide +kernel
theorem dL_law_358 : decode cL_law 358 = .ok (.invokevirtual 39, 3) := by decide +kernel
theorem dL_law_361 : decode cL_law 361 = .ok (.if_icmp .eq 446, 3) := by decide +kernel
theorem dL_law_364 : decode cL_law 364 = .ok (.iconst 0, 1) := by decide +kernel
theorem dL_law_365 : decode cL_law 365 = .ok (.ireturn, 1) := by decide +kernel
theorem dL_law_366 : decode cL_law 366 = .ok (.aload_n 1, 1) := by decide +kernel
theorem dL_law_367 : decode cL_law 367 = .ok (.aload_n 0, 1) := by decide +kernel
theorem dL_law_368 : decode cL_law 368 = .ok (.iload_n 3, 1) := by decide +kernel
theorem dL_law_369 : decode cL_law 369 = .ok (.iconst 1, 1) := by decide +kernel
theorem dL_law_370 : decode cL_law 370 = .ok (.iadd, 1) := by decide +kernel
theorem dL_law_371 : decode cL_law 371 = .ok (.iaload, 1) := by decide +kernel
theorem dL_law_372 : decode cL_law 372 = .ok (.aload_n 0, 1) := by decide +kernel
theorem dL_law_373 : decode cL_law 373 = .ok (.iload_n 3, 1) := by decide +kernel
theorem dL_law_374 : decode cL_law 374 = .ok (.iconst 2, 1) := by decide +kernel
theorem dL_law_375 : decode cL_law 375 = .ok (.iadd, 1) := by decide +kernel
theorem dL_law_376 : decode cL_law 376 = .ok (.iaload, 1) := by decide +kernel
theorem dL_law_377 : decode cL_law 377 = .ok (.aload_n 0, 1) := by decide +kernel
theorem dL_law_378 : decode cL_law 378 = .ok (.iload_n 3, 1) := by decide +kernel
theorem dL_law_379 : decode cL_law 379 = .ok (.iconst 3, 1) := by decide +kernel
theorem dL_law_380 : decode cL_law 380 = .ok (.iadd, 1) := by decide +kernel
theorem dL_law_381 : decode cL_law 381 = .ok (.iaload, 1) := by decide +kernel
theorem dL_law_382 : decode cL_law 382 = .ok (.aload_n 0, 1) := by decide +kernel
theorem dL_law_383 : decode cL_law 383 = .ok (.iload_n 3, 1) := by decide +kernel
theorem dL_law_384 : decode cL_law 384 = .ok (.iconst 4, 1) := by decide +kernel
theorem dL_law_385 : decode cL_law 385 = .ok (.iadd, 1) := by decide +kernel
theorem dL_law_386 : decode cL_law 386 = .ok (.iaload, 1) := by decide +kernel
theorem dL_law_387 : decode cL_law 387 = .ok (.aload_n 0, 1) := by decide +kernel
theorem dL_law_388 : decode cL_law 388 = .ok (.iload_n 3, 1) := by decide +kernel
theorem dL_law_389 : decode cL_law 389 = .ok (.iconst 5, 1) := by decide +kernel
theorem dL_law_390 : decode cL_law 390 = .ok (.iadd, 1) := by decide +kernel
theorem dL_law_391 : decode cL_law 391 = .ok (.iaload, 1) := by decide +kernel
theorem dL_law_392 : decode cL_law 392 = .ok (.invokevirtual 40, 3) := by decide +kernel
theorem dL_law_395 : decode cL_law 395 = .ok (.aload_n 2, 1) := by decide +kernel
theorem dL_law_396 : decode cL_law 396 = .ok (.aload_n 0, 1) := by decide +kernel
theorem dL_law_397 : decode cL_law 397 = .ok (.iload_n 3, 1) := by decide +kernel
theorem dL_law_398 : decode cL_law 398 = .ok (.iconst 1, 1) := by decide +kernel
theorem dL_law_399 : decode cL_law 399 = .ok (.iadd, 1) := by decide +kernel
theorem dL_law_400 : decode cL_law 400 = .ok (.iaload, 1) := by decide +kernel
theorem dL_law_401 : decode cL_law 401 = .ok (.aload_n 0, 1) := by decide +kernel
theorem dL_law_402 : decode cL_law 402 = .ok (.iload_n 3, 1) := by decide +kernel
theorem dL_law_403 : decode cL_law 403 = .ok (.iconst 2, 1) := by decide +kernel
theorem dL_law_404 : decode cL_law 404 = .ok (.iadd, 1) := by decide +kernel
theorem dL_law_405 : decode cL_law 405 = .ok (.iaload, 1) := by decide +kernel
theorem dL_law_406 : decode cL_law 406 = .ok (.aload_n 0, 1) := by decide +kernel
theorem dL_law_407 : decode cL_law 407 = .ok (.iload_n 3, 1) := by decide +kernel
theorem dL_law_408 : decode cL_law 408 = .ok (.iconst 3, 1) := by decide +kernel
theorem dL_law_409 : decode cL_law 409 = .ok (.iadd, 1) := by decide +kernel
theorem dL_law_410 : decode cL_law 410 = .ok (.iaload, 1) := by decide +kernel
theorem dL_law_411 : decode cL_law 411 = .ok (.aload_n 0, 1) := by decide +kernel
theorem dL_law_412 : decode cL_law 412 = .ok (.iload_n 3, 1) := by decide +kernel
theorem dL_law_413 : decode cL_law 413 = .ok (.iconst 4, 1) := by decide +kernel
theorem dL_law_414 : decode cL_law 414 = .ok (.iadd, 1) := by decide +kernel
theorem dL_law_415 : decode cL_law 415 = .ok (.iaload, 1) := by decide +kernel
theorem dL_law_416 : decode cL_law 416 = .ok (.aload_n 0, 1) := by decide +kernel
theorem dL_law_417 : decode cL_law 417 = .ok (.iload_n 3, 1) := by decide +kernel
theorem dL_law_418 : decode cL_law 418 = .ok (.iconst 5, 1) := by decide +kernel
theorem dL_law_419 : decode cL_law 419 = .ok (.iadd, 1) := by decide +kernel
theorem dL_law_420 : decode cL_law 420 = .ok (.iaload, 1) := by decide +kernel
theorem dL_law_421 : decode cL_law 421 = .ok (.invokevirtual 44, 3) := by decide +kernel
theorem dL_law_424 : decode cL_law 424 = .ok (.if_icmp .eq 383, 3) := by decide +kernel
theorem dL_law_427 : decode cL_law 427 = .ok (.iconst 0, 1) := by decide +kernel
theorem dL_law_428 : decode cL_law 428 = .ok (.ireturn, 1) := by decide +kernel
theorem dL_law_429 : decode cL_law 429 = .ok (.aload_n 1, 1) := by decide +kernel
theorem dL_law_430 : decode cL_law 430 = .ok (.aload_n 0, 1) := by decide +kernel
theorem dL_law_431 : decode cL_law 431 = .ok (.iload_n 3, 1) := by decide +kernel
theorem dL_law_432 : decode cL_law 432 = .ok (.iconst 1, 1) := by decide +kernel
theorem dL_law_433 : decode cL_law 433 = .ok (.iadd, 1) := by decide +kernel
theorem dL_law_434 : decode cL_law 434 = .ok (.iaload, 1) := by decide +kernel
theorem dL_law_435 : decode cL_law 435 = .ok (.aload_n 0, 1) := by decide +kernel
theorem dL_law_436 : decode cL_law 436 = .ok (.iload_n 3, 1) := by decide +kernel
theorem dL_law_437 : decode cL_law 437 = .ok (.iconst 2, 1) := by decide +kernel
theorem dL_law_438 : decode cL_law 438 = .ok (.iadd, 1) := by decide +kernel
theorem dL_law_439 : decode cL_law 439 = .ok (.iaload, 1) := by decide +kernel
theorem dL_law_440 : decode cL_law 440 = .ok (.ifCond .eq 7, 3) := by decide +kernel
theorem dL_law_443 : decode cL_law 443 = .ok (.iconst 1, 1) := by decide +kernel
theorem dL_law_444 : decode cL_law 444 = .ok (.goto 4, 3) := by decide +kernel
theorem dL_law_447 : decode cL_law 447 = .ok (.iconst 0, 1) := by decide +kernel
theorem dL_law_448 : decode cL_law 448 = .ok (.invokevirtual 45, 3) := by decide +kernel
theorem dL_law_451 : decode cL_law 451 = .ok (.aload_n 2, 1) := by decide +kernel
theorem dL_law_452 : decode cL_law 452 = .ok (.aload_n 0, 1) := by decide +kernel
theorem dL_law_453 : decode cL_law 453 = .ok (.iload_n 3, 1) := by decide +kernel
theorem dL_law_454 : decode cL_law 454 = .ok (.iconst 1, 1) := by decide +kernel
theorem dL_law_455 : decode cL_law 455 = .ok (.iadd, 1) := by decide +kernel
theorem dL_law_456 : decode cL_law 456 = .ok (.iaload, 1) := by decide +kernel
theorem dL_law_457 : decode cL_law 457 = .ok (.aload_n 0, 1) := by decide +kernel
theorem dL_law_458 : decode cL_law 458 = .ok (.iload_n 3, 1) := by decide +kernel
theorem dL_law_459 : decode cL_law 459 = .ok (.iconst 2, 1) := by decide +kernel
theorem dL_law_460 : decode cL_law 460 = .ok (.iadd, 1) := by decide +kernel
theorem dL_law_461 : decode cL_law 461 = .ok (.iaload, 1) := by decide +kernel
theorem dL_law_462 : decode cL_law 462 = .ok (.ifCond .eq 7, 3) := by decide +kernel
theorem dL_law_465 : decode cL_law 465 = .ok (.iconst 1, 1) := by decide +kernel
theorem dL_law_466 : decode cL_law 466 = .ok (.goto 4, 3) := by decide +kernel
theorem dL_law_469 : decode cL_law 469 = .ok (.iconst 0, 1) := by decide +kernel
theorem dL_law_470 : decode cL_law 470 = .ok (.invokevirtual 48, 3) := by decide +kernel
theorem dL_law_473 : decode cL_law 473 = .ok (.if_icmp .eq 334, 3) := by decide +kernel
theorem dL_law_476 : decode cL_law 476 = .ok (.iconst 0, 1) := by decide +kernel
theorem dL_law_477 : decode cL_law 477 = .ok (.ireturn, 1) := by decide +kernel
theorem dL_law_478 : decode cL_law 478 = .ok (.aload_n 1, 1) := by decide +kernel
theorem dL_law_479 : decode cL_law 479 = .ok (.aload_n 0, 1) := by decide +kernel
theorem dL_law_480 : decode cL_law 480 = .ok (.iload_n 3, 1) := by decide +kernel
theorem dL_law_481 : decode cL_law 481 = .ok (.iconst 1, 1) := by decide +kernel
theorem dL_law_482 : decode cL_law 482 = .ok (.iadd, 1) := by decide +kernel
theorem dL_law_483 : decode cL_law 483 = .ok (.iaload, 1) := by decide +kernel
theorem dL_law_484 : decode cL_law 484 = .ok (.invokevirtual 49, 3) := by decide +kernel
theorem dL_law_487 : decode cL_law 487 = .ok (.aload_n 2, 1) := by decide +kernel
theorem dL_law_488 : decode cL_law 488 = .ok (.aload_n 0, 1) := by decide +kernel
theorem dL_law_489 : decode cL_law 489 = .ok (.iload_n 3, 1) := by decide +kernel
theorem dL_law_490 : decode cL_law 490 = .ok (.iconst 1, 1) := by decide +kernel
theorem dL_law_491 : decode cL_law 491 = .ok (.iadd, 1) := by decide +kernel
theorem dL_law_492 : decode cL_law 492 = .ok (.iaload, 1) := by decide +kernel
theorem dL_law_493 : decode cL_law 493 = .ok (.invokevirtual 53, 3) := by decide +kernel
theorem dL_law_496 : decode cL_law 496 = .ok (.if_icmp .eq 311, 3) := by decide +kernel
theorem dL_law_499 : decode cL_law 499 = .ok (.iconst 0, 1) := by decide +kernel
theorem dL_law_500 : decode cL_law 500 = .ok (.ireturn, 1) := by decide +kernel
theorem dL_law_501 : decode cL_law 501 = .ok (.aload_n 1, 1) := by decide +kernel
theorem dL_law_502 : decode cL_law 502 = .ok (.aload_n 0, 1) := by decide +kernel
theorem dL_law_503 : decode cL_law 503 = .ok (.iload_n 3, 1) := by decide +kernel
theorem dL_law_504 : decode cL_law 504 = .ok (.iconst 1, 1) := by decide +kernel
theorem dL_law_505 : decode cL_law 505 = .ok (.iadd, 1) := by decide +kernel
theorem dL_law_506 : decode cL_law 506 = .ok (.iaload, 1) := by decide +kernel
theorem dL_law_507 : decode cL_law 507 = .ok (.invokevirtual 54, 3) := by decide +kernel
theorem dL_law_510 : decode cL_law 510 = .ok (.aload_n 2, 1) := by decide +kernel
theorem dL_law_511 : decode cL_law 511 = .ok (.aload_n 0, 1) := by decide +kernel
theorem dL_law_512 : decode cL_law 512 = .ok (.iload_n 3, 1) := by decide +kernel
theorem dL_law_513 : decode cL_law 513 = .ok (.iconst 1, 1) := by decide +kernel
theorem dL_law_514 : decode cL_law 514 = .ok (.iadd, 1) := by decide +kernel
theorem dL_law_515 : decode cL_law 515 = .ok (.iaload, 1) := by decide +kernel
theorem dL_law_516 : decode cL_law 516 = .ok (.invokevirtual 57, 3) := by decide +kernel
theorem dL_law_519 : decode cL_law 519 = .ok (.if_icmp .eq 288, 3) := by decide +kernel
theorem dL_law_522 : decode cL_law 522 = .ok (.iconst 0, 1) := by decide +kernel
theorem dL_law_523 : decode cL_law 523 = .ok (.ireturn, 1) := by decide +kernel
theorem dL_law_524 : decode cL_law 524 = .ok (.aload_n 1, 1) := by decide +kernel
theorem dL_law_525 : decode cL_law 525 = .ok (.aload_n 0, 1) := by decide +kernel
theorem dL_law_526 : decode cL_law 526 = .ok (.iload_n 3, 1) := by decide +kernel
theorem dL_law_527 : decode cL_law 527 = .ok (.iconst 1, 1) := by decide +kernel
theorem dL_law_528 : decode cL_law 528 = .ok (.iadd, 1) := by decide +kernel
theorem dL_law_529 : decode cL_law 529 = .ok (.iaload, 1) := by decide +kernel
theorem dL_law_530 : decode cL_law 530 = .ok (.invokevirtual 58, 3) := by decide +kernel
theorem dL_law_533 : decode cL_law 533 = .ok (.aload_n 2, 1) := by decide +kernel
theorem dL_law_534 : decode cL_law 534 = .ok (.aload_n 0, 1) := by decide +kernel
theorem dL_law_535 : decode cL_law 535 = .ok (.iload_n 3, 1) := by decide +kernel
theorem dL_law_536 : decode cL_law 536 = .ok (.iconst 1, 1) := by decide +kernel
theorem dL_law_537 : decode cL_law 537 = .ok (.iadd, 1) := by decide +kernel
theorem dL_law_538 : decode cL_law 538 = .ok (.iaload, 1) := by decide +kernel
theorem dL_law_539 : decode cL_law 539 = .ok (.invokevirtual 61, 3) := by decide +kernel
theorem dL_law_542 : decode cL_law 542 = .ok (.if_icmp .eq 265, 3) := by decide +kernel
theorem dL_law_545 : decode cL_law 545 = .ok (.iconst 0, 1) := by decide +kernel
theorem dL_law_546 : decode cL_law 546 = .ok (.ireturn, 1) := by decide +kernel
theorem dL_law_547 : decode cL_law 547 = .ok (.aload_n 1, 1) := by decide +kernel
theorem dL_law_548 : decode cL_law 548 = .ok (.aload_n 0, 1) := by decide +kernel
theorem dL_law_549 : decode cL_law 549 = .ok (.iload_n 3, 1) := by decide +kernel
theorem dL_law_550 : decode cL_law 550 = .ok (.iconst 1, 1) := by decide +kernel
theorem dL_law_551 : decode cL_law 551 = .ok (.iadd, 1) := by decide +kernel
theorem dL_law_552 : decode cL_law 552 = .ok (.iaload, 1) := by decide +kernel
theorem dL_law_553 : decode cL_law 553 = .ok (.invokevirtual 62, 3) := by decide +kernel
theorem dL_law_556 : decode cL_law 556 = .ok (.aload_n 2, 1) := by decide +kernel
theorem dL_law_557 : decode cL_law 557 = .ok (.aload_n 0, 1) := by decide +kernel
theorem dL_law_558 : decode cL_law 558 = .ok (.iload_n 3, 1) := by decide +kernel
theorem dL_law_559 : decode cL_law 559 = .ok (.iconst 1, 1) := by decide +kernel
theorem dL_law_560 : decode cL_law 560 = .ok (.iadd, 1) := by decide +kernel
theorem dL_law_561 : decode cL_law 561 = .ok (.iaload, 1) := by decide +kernel
theorem dL_law_562 : decode cL_law 562 = .ok (.invokevirtual 65, 3) := by decide +kernel
theorem dL_law_565 : decode cL_law 565 = .ok (.if_icmp .eq 242, 3) := by decide +kernel
theorem dL_law_568 : decode cL_law 568 = .ok (.iconst 0, 1) := by decide +kernel
theorem dL_law_569 : decode cL_law 569 = .ok (.ireturn, 1) := by decide +kernel
theorem dL_law_570 : decode cL_law 570 = .ok (.aload_n 1, 1) := by decide +kernel
theorem dL_law_571 : decode cL_law 571 = .ok (.aload_n 0, 1) := by decide +kernel
theorem dL_law_572 : decode cL_law 572 = .ok (.iload_n 3, 1) := by decide +kernel
theorem dL_law_573 : decode cL_law 573 = .ok (.iconst 1, 1) := by decide +kernel
theorem dL_law_574 : decode cL_law 574 = .ok (.iadd, 1) := by decide +kernel
theorem dL_law_575 : decode cL_law 575 = .ok (.iaload, 1) := by decide +kernel
theorem dL_law_576 : decode cL_law 576 = .ok (.invokevirtual 66, 3) := by decide +kernel
theorem dL_law_579 : decode cL_law 579 = .ok (.aload_n 2, 1) := by decide +kernel
theorem dL_law_580 : decode cL_law 580 = .ok (.aload_n 0, 1) := by decide +kernel
theorem dL_law_581 : decode cL_law 581 = .ok (.iload_n 3, 1) := by decide +kernel
theorem dL_law_582 : decode cL_law 582 = .ok (.iconst 1, 1) := by decide +kernel
theorem dL_law_583 : decode cL_law 583 = .ok (.iadd, 1) := by decide +kernel
theorem dL_law_584 : decode cL_law 584 = .ok (.iaload, 1) := by decide +kernel
theorem dL_law_585 : decode cL_law 585 = .ok (.invokevirtual 69, 3) := by decide +kernel
theorem dL_law_588 : decode cL_law 588 = .ok (.if_icmp .eq 219, 3) := by decide +kernel
theorem dL_law_591 : decode cL_law 591 = .ok (.iconst 0, 1) := by decide +kernel
theorem dL_law_592 : decode cL_law 592 = .ok (.ireturn, 1) := by decide +kernel
theorem dL_law_593 : decode cL_law 593 = .ok (.aload_n 1, 1) := by decide +kernel
theorem dL_law_594 : decode cL_law 594 = .ok (.aload_n 0, 1) := by decide +kernel
theorem dL_law_595 : decode cL_law 595 = .ok (.iload_n 3, 1) := by decide +kernel
theorem dL_law_596 : decode cL_law 596 = .ok (.iconst 1, 1) := by decide +kernel
theorem dL_law_597 : decode cL_law 597 = .ok (.iadd, 1) := by decide +kernel
theorem dL_law_598 : decode cL_law 598 = .ok (.iaload, 1) := by decide +kernel
theorem dL_law_599 : decode cL_law 599 = .ok (.aload_n 0, 1) := by decide +kernel
theorem dL_law_600 : decode cL_law 600 = .ok (.iload_n 3, 1) := by decide +kernel
theorem dL_law_601 : decode cL_law 601 = .ok (.iconst 2, 1) := by decide +kernel
theorem dL_law_602 : decode cL_law 602 = .ok (.iadd, 1) := by decide +kernel
theorem dL_law_603 : decode cL_law 603 = .ok (.iaload, 1) := by decide +kernel
theorem dL_law_604 : decode cL_law 604 = .ok (.aload_n 0, 1) := by decide +kernel
theorem dL_law_605 : decode cL_law 605 = .ok (.iload_n 3, 1) := by decide +kernel
theorem dL_law_606 : decode cL_law 606 = .ok (.iconst 3, 1) := by decide +kernel
theorem dL_law_607 : decode cL_law 607 = .ok (.iadd, 1) := by decide +kernel
theorem dL_law_608 : decode cL_law 608 = .ok (.iaload, 1) := by decide +kernel
theorem dL_law_609 : decode cL_law 609 = .ok (.invokevirtual 70, 3) := by decide +kernel
theorem dL_law_612 : decode cL_law 612 = .ok (.aload_n 2, 1) := by decide +kernel
theorem dL_law_613 : decode cL_law 613 = .ok (.aload_n 0, 1) := by decide +kernel
theorem dL_law_614 : decode cL_law 614 = .ok (.iload_n 3, 1) := by decide +kernel
theorem dL_law_615 : decode cL_law 615 = .ok (.iconst 1, 1) := by decide +kernel
theorem dL_law_616 : decode cL_law 616 = .ok (.iadd, 1) := by decide +kernel
theorem dL_law_617 : decode cL_law 617 = .ok (.iaload, 1) := by decide +kernel
theorem dL_law_618 : decode cL_law 618 = .ok (.aload_n 0, 1) := by decide +kernel
theorem dL_law_619 : decode cL_law 619 = .ok (.iload_n 3, 1) := by decide +kernel
theorem dL_law_620 : decode cL_law 620 = .ok (.iconst 2, 1) := by decide +kernel
theorem dL_law_621 : decode cL_law 621 = .ok (.iadd, 1) := by decide +kernel
theorem dL_law_622 : decode cL_law 622 = .ok (.iaload, 1) := by decide +kernel
theorem dL_law_623 : decode cL_law 623 = .ok (.aload_n 0, 1) := by decide +kernel
theorem dL_law_624 : decode cL_law 624 = .ok (.iload_n 3, 1) := by decide +kernel
theorem dL_law_625 : decode cL_law 625 = .ok (.iconst 3, 1) := by decide +kernel
theorem dL_law_626 : decode cL_law 626 = .ok (.iadd, 1) := by decide +kernel
theorem dL_law_627 : decode cL_law 627 = .ok (.iaload, 1) := by decide +kernel
theorem dL_law_628 : decode cL_law 628 = .ok (.invokevirtual 73, 3) := by decide +kernel
theorem dL_law_631 : decode cL_law 631 = .ok (.if_icmp .eq 176, 3) := by decide +kernel
theorem dL_law_634 : decode cL_law 634 = .ok (.iconst 0, 1) := by decide +kernel
theorem dL_law_635 : decode cL_law 635 = .ok (.ireturn, 1) := by decide +kernel
theorem dL_law_636 : decode cL_law 636 = .ok (.aload_n 1, 1) := by decide +kernel
theorem dL_law_637 : decode cL_law 637 = .ok (.aload_n 0, 1) := by decide +kernel
theorem dL_law_638 : decode cL_law 638 = .ok (.iload_n 3, 1) := by decide +kernel
theorem dL_law_639 : decode cL_law 639 = .ok (.iconst 1, 1) := by decide +kernel
theorem dL_law_640 : decode cL_law 640 = .ok (.iadd, 1) := by decide +kernel
theorem dL_law_641 : decode cL_law 641 = .ok (.iaload, 1) := by decide +kernel
theorem dL_law_642 : decode cL_law 642 = .ok (.aload_n 0, 1) := by decide +kernel
theorem dL_law_643 : decode cL_law 643 = .ok (.iload_n 3, 1) := by decide +kernel
theorem dL_law_644 : decode cL_law 644 = .ok (.iconst 2, 1) := by decide +kernel
theorem dL_law_645 : decode cL_law 645 = .ok (.iadd, 1) := by decide +kernel
theorem dL_law_646 : decode cL_law 646 = .ok (.iaload, 1) := by decide +kernel
theorem dL_law_647 : decode cL_law 647 = .ok (.invokevirtual 74, 3) := by decide +kernel
theorem dL_law_650 : decode cL_law 650 = .ok (.aload_n 2, 1) := by decide +kernel
theorem dL_law_651 : decode cL_law 651 = .ok (.aload_n 0, 1) := by decide +kernel
theorem dL_law_652 : decode cL_law 652 = .ok (.iload_n 3, 1) := by decide +kernel
theorem dL_law_653 : decode cL_law 653 = .ok (.iconst 1, 1) := by decide +kernel
theorem dL_law_654 : decode cL_law 654 = .ok (.iadd, 1) := by decide +kernel
theorem dL_law_655 : decode cL_law 655 = .ok (.iaload, 1) := by decide +kernel
theorem dL_law_656 : decode cL_law 656 = .ok (.aload_n 0, 1) := by decide +kernel
theorem dL_law_657 : decode cL_law 657 = .ok (.iload_n 3, 1) := by decide +kernel
theorem dL_law_658 : decode cL_law 658 = .ok (.iconst 2, 1) := by decide +kernel
theorem dL_law_659 : decode cL_law 659 = .ok (.iadd, 1) := by decide +kernel
theorem dL_law_660 : decode cL_law 660 = .ok (.iaload, 1) := by decide +kernel
theorem dL_law_661 : decode cL_law 661 = .ok (.invokevirtual 77, 3) := by decide +kernel
theorem dL_law_664 : decode cL_law 664 = .ok (.if_icmp .eq 143, 3) := by decide +kernel
theorem dL_law_667 : decode cL_law 667 = .ok (.iconst 0, 1) := by decide +kernel
theorem dL_law_668 : decode cL_law 668 = .ok (.ireturn, 1) := by decide +kernel
theorem dL_law_669 : decode cL_law 669 = .ok (.aload_n 1, 1) := by decide +kernel
theorem dL_law_670 : decode cL_law 670 = .ok (.invokevirtual 78, 3) := by decide +kernel
theorem dL_law_673 : decode cL_law 673 = .ok (.aload_n 2, 1) := by decide +kernel
theorem dL_law_674 : decode cL_law 674 = .ok (.invokevirtual 82, 3) := by decide +kernel
theorem dL_law_677 : decode cL_law 677 = .ok (.if_icmp .eq 130, 3) := by decide +kernel
theorem dL_law_680 : decode cL_law 680 = .ok (.iconst 0, 1) := by decide +kernel
theorem dL_law_681 : decode cL_law 681 = .ok (.ireturn, 1) := by decide +kernel
theorem dL_law_682 : decode cL_law 682 = .ok (.aload_n 1, 1) := by decide +kernel
theorem dL_law_683 : decode cL_law 683 = .ok (.aload_n 0, 1) := by decide +kernel
theorem dL_law_684 : decode cL_law 684 = .ok (.iload_n 3, 1) := by decide +kernel
theorem dL_law_685 : decode cL_law 685 = .ok (.iconst 1, 1) := by decide +kernel
theorem dL_law_686 : decode cL_law 686 = .ok (.iadd, 1) := by decide +kernel
theorem dL_law_687 : decode cL_law 687 = .ok (.iaload, 1) := by decide +kernel
theorem dL_law_688 : decode cL_law 688 = .ok (.invokevirtual 83, 3) := by decide +kernel
theorem dL_law_691 : decode cL_law 691 = .ok (.aload_n 2, 1) := by decide +kernel
theorem dL_law_692 : decode cL_law 692 = .ok (.aload_n 0, 1) := by decide +kernel
theorem dL_law_693 : decode cL_law 693 = .ok (.iload_n 3, 1) := by decide +kernel
theorem dL_law_694 : decode cL_law 694 = .ok (.iconst 1, 1) := by decide +kernel
theorem dL_law_695 : decode cL_law 695 = .ok (.iadd, 1) := by decide +kernel
theorem dL_law_696 : decode cL_law 696 = .ok (.iaload, 1) := by decide +kernel
theorem dL_law_697 : decode cL_law 697 = .ok (.invokevirtual 86, 3) := by decide +kernel
theorem dL_law_700 : decode cL_law 700 = .ok (.if_icmp .eq 107, 3) := by decide +kernel
theorem dL_law_703 : decode cL_law 703 = .ok (.iconst 0, 1) := by decide +kernel
theorem dL_law_704 : decode cL_law 704 = .ok (.ireturn, 1) := by decide +kernel
theorem dL_law_705 : decode cL_law 705 = .ok (.aload_n 1, 1) := by decide +kernel
theorem dL_law_706 : decode cL_law 706 = .ok (.aload_n 0, 1) := by decide +kernel
theorem dL_law_707 : decode cL_law 707 = .ok (.iload_n 3, 1) := by decide +kernel
theorem dL_law_708 : decode cL_law 708 = .ok (.iconst 1, 1) := by decide +kernel
theorem dL_law_709 : decode cL_law 709 = .ok (.iadd, 1) := by decide +kernel
theorem dL_law_710 : decode cL_law 710 = .ok (.iaload, 1) := by decide +kernel
theorem dL_law_711 : decode cL_law 711 = .ok (.aload_n 0, 1) := by decide +kernel
theorem dL_law_712 : decode cL_law 712 = .ok (.iload_n 3, 1) := by decide +kernel
theorem dL_law_713 : decode cL_law 713 = .ok (.iconst 2, 1) := by decide +kernel
theorem dL_law_714 : decode cL_law 714 = .ok (.iadd, 1) := by decide +kernel
theorem dL_law_715 : decode cL_law 715 = .ok (.iaload, 1) := by decide +kernel
theorem dL_law_716 : decode cL_law 716 = .ok (.invokevirtual 87, 3) := by decide +kernel
theorem dL_law_719 : decode cL_law 719 = .ok (.aload_n 2, 1) := by decide +kernel
theorem dL_law_720 : decode cL_law 720 = .ok (.aload_n 0, 1) := by decide +kernel
theorem dL_law_721 : decode cL_law 721 = .ok (.iload_n 3, 1) := by decide +kernel
theorem dL_law_722 : decode cL_law 722 = .ok (.iconst 1, 1) := by decide +kernel
theorem dL_law_723 : decode cL_law 723 = .ok (.iadd, 1) := by decide +kernel
theorem dL_law_724 : decode cL_law 724 = .ok (.iaload, 1) := by decide +kernel
theorem dL_law_725 : decode cL_law 725 = .ok (.aload_n 0, 1) := by decide +kernel
theorem dL_law_726 : decode cL_law 726 = .ok (.iload_n 3, 1) := by decide +kernel
theorem dL_law_727 : decode cL_law 727 = .ok (.iconst 2, 1) := by decide +kernel
theorem dL_law_728 : decode cL_law 728 = .ok (.iadd, 1) := by decide +kernel
theorem dL_law_729 : decode cL_law 729 = .ok (.iaload, 1) := by decide +kernel
theorem dL_law_730 : decode cL_law 730 = .ok (.invokevirtual 90, 3) := by decide +kernel
theorem dL_law_733 : decode cL_law 733 = .ok (.if_icmp .eq 74, 3) := by decide +kernel
theorem dL_law_736 : decode cL_law 736 = .ok (.iconst 0, 1) := by decide +kernel
theorem dL_law_737 : decode cL_law 737 = .ok (.ireturn, 1) := by decide +kernel
theorem dL_law_738 : decode cL_law 738 = .ok (.aload_n 1, 1) := by decide +kernel
theorem dL_law_739 : decode cL_law 739 = .ok (.aload_n 0, 1) := by decide +kernel
theorem dL_law_740 : decode cL_law 740 = .ok (.iload_n 3, 1) := by decide +kernel
theorem dL_law_741 : decode cL_law 741 = .ok (.iconst 1, 1) := by decide +kernel
theorem dL_law_742 : decode cL_law 742 = .ok (.iadd, 1) := by decide +kernel
theorem dL_law_743 : decode cL_law 743 = .ok (.iaload, 1) := by decide +kernel
theorem dL_law_744 : decode cL_law 744 = .ok (.aload_n 0, 1) := by decide +kernel
theorem dL_law_745 : decode cL_law 745 = .ok (.iload_n 3, 1) := by decide +kernel
theorem dL_law_746 : decode cL_law 746 = .ok (.iconst 2, 1) := by decide +kernel
theorem dL_law_747 : decode cL_law 747 = .ok (.iadd, 1) := by decide +kernel
theorem dL_law_748 : decode cL_law 748 = .ok (.iaload, 1) := by decide +kernel
theorem dL_law_749 : decode cL_law 749 = .ok (.invokevirtual 91, 3) := by decide +kernel
theorem dL_law_752 : decode cL_law 752 = .ok (.aload_n 2, 1) := by decide +kernel
theorem dL_law_753 : decode cL_law 753 = .ok (.aload_n 0, 1) := by decide +kernel
theorem dL_law_754 : decode cL_law 754 = .ok (.iload_n 3, 1) := by decide +kernel
theorem dL_law_755 : decode cL_law 755 = .ok (.iconst 1, 1) := by decide +kernel
theorem dL_law_756 : decode cL_law 756 = .ok (.iadd, 1) := by decide +kernel
theorem dL_law_757 : decode cL_law 757 = .ok (.iaload, 1) := by decide +kernel
theorem dL_law_758 : decode cL_law 758 = .ok (.aload_n 0, 1) := by decide +kernel
theorem dL_law_759 : decode cL_law 759 = .ok (.iload_n 3, 1) := by decide +kernel
theorem dL_law_760 : decode cL_law 760 = .ok (.iconst 2, 1) := by decide +kernel
theorem dL_law_761 : decode cL_law 761 = .ok (.iadd, 1) := by decide +kernel
theorem dL_law_762 : decode cL_law 762 = .ok (.iaload, 1) := by decide +kernel
theorem dL_law_763 : decode cL_law 763 = .ok (.invokevirtual 94, 3) := by decide +kernel
theorem dL_law_766 : decode cL_law 766 = .ok (.if_icmp .eq 41, 3) := by decide +kernel
theorem dL_law_769 : decode cL_law 769 = .ok (.iconst 0, 1) := by decide +kernel
theorem dL_law_770 : decode cL_law 770 = .ok (.ireturn, 1) := by decide +kernel
theorem dL_law_771 : decode cL_law 771 = .ok (.aload_n 1, 1) := by decide +kernel
theorem dL_law_772 : decode cL_law 772 = .ok (.aload_n 0, 1) := by decide +kernel
theorem dL_law_773 : decode cL_law 773 = .ok (.iload_n 3, 1) := by decide +kernel
theorem dL_law_774 : decode cL_law 774 = .ok (.iconst 1, 1) := by decide +kernel
theorem dL_law_775 : decode cL_law 775 = .ok (.iadd, 1) := by decide +kernel
theorem dL_law_776 : decode cL_law 776 = .ok (.iaload, 1) := by decide +kernel
theorem dL_law_777 : decode cL_law 777 = .ok (.invokevirtual 95, 3) := by decide +kernel
theorem dL_law_780 : decode cL_law 780 = .ok (.aload_n 2, 1) := by decide +kernel
theorem dL_law_781 : decode cL_law 781 = .ok (.aload_n 0, 1) := by decide +kernel
theorem dL_law_782 : decode cL_law 782 = .ok (.iload_n 3, 1) := by decide +kernel
theorem dL_law_783 : decode cL_law 783 = .ok (.iconst 1, 1) := by decide +kernel
theorem dL_law_784 : decode cL_law 784 = .ok (.iadd, 1) := by decide +kernel
theorem dL_law_785 : decode cL_law 785 = .ok (.iaload, 1) := by decide +kernel
theorem dL_law_786 : decode cL_law 786 = .ok (.invokevirtual 98, 3) := by decide +kernel
theorem dL_law_789 : decode cL_law 789 = .ok (.if_icmp .eq 18, 3) := by decide +kernel
theorem dL_law_792 : decode cL_law 792 = .ok (.iconst 0, 1) := by decide +kernel
theorem dL_law_793 : decode cL_law 793 = .ok (.ireturn, 1) := by decide +kernel
theorem dL_law_794 : decode cL_law 794 = .ok (.aload_n 1, 1) := by decide +kernel
theorem dL_law_795 : decode cL_law 795 = .ok (.invokevirtual 99, 3) := by decide +kernel
theorem dL_law_798 : decode cL_law 798 = .ok (.aload_n 2, 1) := by decide +kernel
theorem dL_law_799 : decode cL_law 799 = .ok (.invokevirtual 102, 3) := by decide +kernel
theorem dL_law_802 : decode cL_law 802 = .ok (.if_icmp .eq 5, 3) := by decide +kernel
theorem dL_law_805 : decode cL_law 805 = .ok (.iconst 0, 1) := by decide +kernel
theorem dL_law_806 : decode cL_law 806 = .ok (.ireturn, 1) := by decide +kernel
theorem dL_law_807 : decode cL_law 807 = .ok (.iinc 3 6, 3) := by decide +kernel
theorem dL_law_810 : decode cL_law 810 = .ok (.goto (-792), 3) := by decide +kernel
theorem dL_law_813 : decode cL_law 813 = .ok (.iconst 1, 1) := by decide +kernel
theorem dL_law_814 : decode cL_law 814 = .ok (.ireturn, 1) := by decide +kernel
