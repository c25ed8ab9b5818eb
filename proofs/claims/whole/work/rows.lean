section
-- ===== PART A: goes FIRST, ahead of the names: the tables' words, and 'selects' of the private methods out of them =====
/-- a private method of a class that the tables say can be made, by its rows of tables_1 -/
def lw_okq (q : MethodName × Nat) : Prop := (q.1.cls ≠ "java/lang/invoke/MethodHandle" ∧ q.1.cls ≠ "java/lang/invoke/VarHandle") ∧ Cond.instantiable q.1.cls q.2 ∈ tables_1 ∧ Cond.privateMethod q.1 ∈ tables_1 ∧ Cond.instanceMethod q.1 ∈ tables_1
theorem lw_p0 : lw_okq (⟨"ObjectLoads", "known", "(I)LObjectLoads$Thing;"⟩, 8) := ⟨⟨by decide +kernel, by decide +kernel⟩, List.mem_of_getElem? (i := 15) (by decide +kernel), List.mem_of_getElem? (i := 274) (by decide +kernel), List.mem_of_getElem? (i := 275) (by decide +kernel)⟩
theorem lw_p1 : lw_okq (⟨"ObjectLoads", "isThing", "(I)Z"⟩, 8) := ⟨⟨by decide +kernel, by decide +kernel⟩, List.mem_of_getElem? (i := 15) (by decide +kernel), List.mem_of_getElem? (i := 278) (by decide +kernel), List.mem_of_getElem? (i := 279) (by decide +kernel)⟩
theorem lw_p2 : lw_okq (⟨"ObjectLoads", "isThingOrNone", "(I)Z"⟩, 8) := ⟨⟨by decide +kernel, by decide +kernel⟩, List.mem_of_getElem? (i := 15) (by decide +kernel), List.mem_of_getElem? (i := 291) (by decide +kernel), List.mem_of_getElem? (i := 292) (by decide +kernel)⟩
theorem lw_p3 : lw_okq (⟨"ObjectLoads", "endLoad", "(III)V"⟩, 8) := ⟨⟨by decide +kernel, by decide +kernel⟩, List.mem_of_getElem? (i := 15) (by decide +kernel), List.mem_of_getElem? (i := 330) (by decide +kernel), List.mem_of_getElem? (i := 331) (by decide +kernel)⟩
theorem lw_p4 : lw_okq (⟨"ObjectLoads", "build", "(LObjectLoads$Node;Z)Z"⟩, 8) := ⟨⟨by decide +kernel, by decide +kernel⟩, List.mem_of_getElem? (i := 15) (by decide +kernel), List.mem_of_getElem? (i := 334) (by decide +kernel), List.mem_of_getElem? (i := 335) (by decide +kernel)⟩
theorem lw_p5 : lw_okq (⟨"ObjectLoads", "askKey", "(ILObjectLoads$Node;)Z"⟩, 8) := ⟨⟨by decide +kernel, by decide +kernel⟩, List.mem_of_getElem? (i := 15) (by decide +kernel), List.mem_of_getElem? (i := 346) (by decide +kernel), List.mem_of_getElem? (i := 347) (by decide +kernel)⟩
theorem lw_p6 : lw_okq (⟨"ObjectLoads", "failed", "(LObjectLoads$Thing;I)Z"⟩, 8) := ⟨⟨by decide +kernel, by decide +kernel⟩, List.mem_of_getElem? (i := 15) (by decide +kernel), List.mem_of_getElem? (i := 363) (by decide +kernel), List.mem_of_getElem? (i := 364) (by decide +kernel)⟩
theorem lw_p7 : lw_okq (⟨"ObjectLoads", "askValue", "(ILObjectLoads$Node;)Z"⟩, 8) := ⟨⟨by decide +kernel, by decide +kernel⟩, List.mem_of_getElem? (i := 15) (by decide +kernel), List.mem_of_getElem? (i := 378) (by decide +kernel), List.mem_of_getElem? (i := 379) (by decide +kernel)⟩
theorem lw_p8 : lw_okq (⟨"ObjectLoads", "askLinks", "(ILObjectLoads$Node;)Z"⟩, 8) := ⟨⟨by decide +kernel, by decide +kernel⟩, List.mem_of_getElem? (i := 15) (by decide +kernel), List.mem_of_getElem? (i := 415) (by decide +kernel), List.mem_of_getElem? (i := 416) (by decide +kernel)⟩
theorem lw_p9 : lw_okq (⟨"ObjectLoads", "follow", "(LObjectLoads$Node;LObjectLoads$Thing;)Z"⟩, 8) := ⟨⟨by decide +kernel, by decide +kernel⟩, List.mem_of_getElem? (i := 15) (by decide +kernel), List.mem_of_getElem? (i := 471) (by decide +kernel), List.mem_of_getElem? (i := 472) (by decide +kernel)⟩
theorem lw_p10 : lw_okq (⟨"ObjectLoads", "cross", "(LObjectLoads$Node;LObjectLoads$Bridge;)Z"⟩, 8) := ⟨⟨by decide +kernel, by decide +kernel⟩, List.mem_of_getElem? (i := 15) (by decide +kernel), List.mem_of_getElem? (i := 475) (by decide +kernel), List.mem_of_getElem? (i := 476) (by decide +kernel)⟩
theorem lw_p11 : lw_okq (⟨"ObjectLoadsModel", "beginAll", "()V"⟩, 29) := ⟨⟨by decide +kernel, by decide +kernel⟩, List.mem_of_getElem? (i := 571) (by decide +kernel), List.mem_of_getElem? (i := 577) (by decide +kernel), List.mem_of_getElem? (i := 578) (by decide +kernel)⟩
theorem lw_p12 : lw_okq (⟨"ObjectLoadsModel", "isThing", "(I)Z"⟩, 29) := ⟨⟨by decide +kernel, by decide +kernel⟩, List.mem_of_getElem? (i := 571) (by decide +kernel), List.mem_of_getElem? (i := 683) (by decide +kernel), List.mem_of_getElem? (i := 684) (by decide +kernel)⟩
theorem lw_p13 : lw_okq (⟨"ObjectLoadsModel", "isBridge", "(I)Z"⟩, 29) := ⟨⟨by decide +kernel, by decide +kernel⟩, List.mem_of_getElem? (i := 571) (by decide +kernel), List.mem_of_getElem? (i := 709) (by decide +kernel), List.mem_of_getElem? (i := 710) (by decide +kernel)⟩
theorem lw_p14 : lw_okq (⟨"ObjectLoadsModel", "found", "(II)I"⟩, 29) := ⟨⟨by decide +kernel, by decide +kernel⟩, List.mem_of_getElem? (i := 571) (by decide +kernel), List.mem_of_getElem? (i := 719) (by decide +kernel), List.mem_of_getElem? (i := 720) (by decide +kernel)⟩
theorem lw_p15 : lw_okq (⟨"ObjectLoadsModel", "ask", "(IIZ)I"⟩, 29) := ⟨⟨by decide +kernel, by decide +kernel⟩, List.mem_of_getElem? (i := 571) (by decide +kernel), List.mem_of_getElem? (i := 723) (by decide +kernel), List.mem_of_getElem? (i := 724) (by decide +kernel)⟩
def lw_privs_1 : List (MethodName × Nat) := [(⟨"ObjectLoads", "known", "(I)LObjectLoads$Thing;"⟩, 8), (⟨"ObjectLoads", "isThing", "(I)Z"⟩, 8), (⟨"ObjectLoads", "isThingOrNone", "(I)Z"⟩, 8), (⟨"ObjectLoads", "endLoad", "(III)V"⟩, 8), (⟨"ObjectLoads", "build", "(LObjectLoads$Node;Z)Z"⟩, 8), (⟨"ObjectLoads", "askKey", "(ILObjectLoads$Node;)Z"⟩, 8), (⟨"ObjectLoads", "failed", "(LObjectLoads$Thing;I)Z"⟩, 8), (⟨"ObjectLoads", "askValue", "(ILObjectLoads$Node;)Z"⟩, 8), (⟨"ObjectLoads", "askLinks", "(ILObjectLoads$Node;)Z"⟩, 8), (⟨"ObjectLoads", "follow", "(LObjectLoads$Node;LObjectLoads$Thing;)Z"⟩, 8), (⟨"ObjectLoads", "cross", "(LObjectLoads$Node;LObjectLoads$Bridge;)Z"⟩, 8), (⟨"ObjectLoadsModel", "beginAll", "()V"⟩, 29), (⟨"ObjectLoadsModel", "isThing", "(I)Z"⟩, 29), (⟨"ObjectLoadsModel", "isBridge", "(I)Z"⟩, 29), (⟨"ObjectLoadsModel", "found", "(II)I"⟩, 29), (⟨"ObjectLoadsModel", "ask", "(IIZ)I"⟩, 29)]
theorem lw_r1 : ∀ q ∈ lw_privs_1, lw_okq q := List.forall_mem_cons.mpr ⟨lw_p0, List.forall_mem_cons.mpr ⟨lw_p1, List.forall_mem_cons.mpr ⟨lw_p2, List.forall_mem_cons.mpr ⟨lw_p3, List.forall_mem_cons.mpr ⟨lw_p4, List.forall_mem_cons.mpr ⟨lw_p5, List.forall_mem_cons.mpr ⟨lw_p6, List.forall_mem_cons.mpr ⟨lw_p7, List.forall_mem_cons.mpr ⟨lw_p8, List.forall_mem_cons.mpr ⟨lw_p9, List.forall_mem_cons.mpr ⟨lw_p10, List.forall_mem_cons.mpr ⟨lw_p11, List.forall_mem_cons.mpr ⟨lw_p12, List.forall_mem_cons.mpr ⟨lw_p13, List.forall_mem_cons.mpr ⟨lw_p14, List.forall_mem_cons.mpr ⟨lw_p15, fun _ h => absurd h List.not_mem_nil⟩⟩⟩⟩⟩⟩⟩⟩⟩⟩⟩⟩⟩⟩⟩⟩
theorem lw_p16 : lw_okq (⟨"ObjectLoadsModel", "tellKey", "(I)I"⟩, 29) := ⟨⟨by decide +kernel, by decide +kernel⟩, List.mem_of_getElem? (i := 571) (by decide +kernel), List.mem_of_getElem? (i := 727) (by decide +kernel), List.mem_of_getElem? (i := 728) (by decide +kernel)⟩
theorem lw_p17 : lw_okq (⟨"ObjectLoadsModel", "refuse", "(III)I"⟩, 29) := ⟨⟨by decide +kernel, by decide +kernel⟩, List.mem_of_getElem? (i := 571) (by decide +kernel), List.mem_of_getElem? (i := 731) (by decide +kernel), List.mem_of_getElem? (i := 732) (by decide +kernel)⟩
theorem lw_p18 : lw_okq (⟨"ObjectLoadsModel", "tellValue", "(I)I"⟩, 29) := ⟨⟨by decide +kernel, by decide +kernel⟩, List.mem_of_getElem? (i := 571) (by decide +kernel), List.mem_of_getElem? (i := 736) (by decide +kernel), List.mem_of_getElem? (i := 737) (by decide +kernel)⟩
theorem lw_p19 : lw_okq (⟨"ObjectLoadsModel", "tellLinks", "(I)I"⟩, 29) := ⟨⟨by decide +kernel, by decide +kernel⟩, List.mem_of_getElem? (i := 571) (by decide +kernel), List.mem_of_getElem? (i := 740) (by decide +kernel), List.mem_of_getElem? (i := 741) (by decide +kernel)⟩
theorem lw_p20 : lw_okq (⟨"ObjectLoadsModel", "arcsOf", "(II)I"⟩, 29) := ⟨⟨by decide +kernel, by decide +kernel⟩, List.mem_of_getElem? (i := 571) (by decide +kernel), List.mem_of_getElem? (i := 744) (by decide +kernel), List.mem_of_getElem? (i := 745) (by decide +kernel)⟩
theorem lw_p21 : lw_okq (⟨"ObjectLoadsModel", "tellEnd", "(II)I"⟩, 29) := ⟨⟨by decide +kernel, by decide +kernel⟩, List.mem_of_getElem? (i := 571) (by decide +kernel), List.mem_of_getElem? (i := 748) (by decide +kernel), List.mem_of_getElem? (i := 749) (by decide +kernel)⟩
theorem lw_p22 : lw_okq (⟨"ObjectLoadsModel", "isNode", "(I)Z"⟩, 29) := ⟨⟨by decide +kernel, by decide +kernel⟩, List.mem_of_getElem? (i := 571) (by decide +kernel), List.mem_of_getElem? (i := 764) (by decide +kernel), List.mem_of_getElem? (i := 765) (by decide +kernel)⟩
def lw_privs_2 : List (MethodName × Nat) := [(⟨"ObjectLoadsModel", "tellKey", "(I)I"⟩, 29), (⟨"ObjectLoadsModel", "refuse", "(III)I"⟩, 29), (⟨"ObjectLoadsModel", "tellValue", "(I)I"⟩, 29), (⟨"ObjectLoadsModel", "tellLinks", "(I)I"⟩, 29), (⟨"ObjectLoadsModel", "arcsOf", "(II)I"⟩, 29), (⟨"ObjectLoadsModel", "tellEnd", "(II)I"⟩, 29), (⟨"ObjectLoadsModel", "isNode", "(I)Z"⟩, 29)]
theorem lw_r2 : ∀ q ∈ lw_privs_2, lw_okq q := List.forall_mem_cons.mpr ⟨lw_p16, List.forall_mem_cons.mpr ⟨lw_p17, List.forall_mem_cons.mpr ⟨lw_p18, List.forall_mem_cons.mpr ⟨lw_p19, List.forall_mem_cons.mpr ⟨lw_p20, List.forall_mem_cons.mpr ⟨lw_p21, List.forall_mem_cons.mpr ⟨lw_p22, fun _ h => absurd h List.not_mem_nil⟩⟩⟩⟩⟩⟩⟩
def lw_privs : List (MethodName × Nat) := lw_privs_1 ++ (lw_privs_2)
def lw_tbl : List Cond := k2_sels lw_privs ++ tables_1
theorem lw_privs_ok : ∀ q ∈ lw_privs, lw_okq q := by
  show ∀ q ∈ lw_privs_1 ++ (lw_privs_2), lw_okq q
  exact List.forall_mem_append.mpr ⟨lw_r1, lw_r2⟩
end
section
def RX0 : String := "ObjectLoads$Bridge"
def TX0 : u_T := fun k => match k with
  | 0 => ("ObjectLoads$Thing", "number", "I", true)
  | 1 => ("ObjectLoads$Thing", "places", "[LObjectLoads$Thing;", true)
  | 2 => ("ObjectLoads$Thing", "key", "I", false)
  | 3 => ("ObjectLoads$Thing", "v", "I", false)
  | 4 => ("ObjectLoads$Thing", "next", "LObjectLoads$Thing;", false)
  | 5 => ("ObjectLoads$Thing", "held", "Z", false)
  | _ => ("ObjectLoads$Thing", "timesAsked", "I", false)
def tyX0 : Nat → FieldType := fun k => match k with
  | 0 => .int
  | 1 => .array (.object "ObjectLoads$Thing")
  | 2 => .int
  | 3 => .int
  | 4 => .object "ObjectLoads$Thing"
  | 5 => .boolean
  | _ => .int
abbrev wsX00 : List Cond := u_ws RX0 TX0 7
theorem nmX0 : ∀ a, a < 7 → ∀ b, b < 7 → a ≠ b → (TX0 a).2.1 ≠ (TX0 b).2.1 := by decide +kernel
theorem tyX0_ok : ∀ k, k < 7 → parseFieldDescriptor (TX0 k).2.2.1 = some (tyX0 k) := by decide +kernel
abbrev cX0_init : ByteArray := prog_2_method_1_code
def yX0_init : MethodName := ⟨RX0, "<init>", "(III)V"⟩
abbrev cX0_linkCount : ByteArray := prog_2_method_2_code
def yX0_linkCount : MethodName := ⟨RX0, "linkCount", "()I"⟩
abbrev cX0_otherEnd : ByteArray := prog_2_method_3_code
def yX0_otherEnd : MethodName := ⟨RX0, "otherEnd", "(LObjectLoads$Node;)LObjectLoads$Thing;"⟩
def RX1 : String := "ObjectLoads$Broken"
def TX1 : u_T := fun k => match k with
  | 0 => ("ObjectLoads$Thing", "number", "I", true)
  | 1 => ("ObjectLoads$Thing", "places", "[LObjectLoads$Thing;", true)
  | 2 => ("ObjectLoads$Thing", "key", "I", false)
  | 3 => ("ObjectLoads$Thing", "v", "I", false)
  | 4 => ("ObjectLoads$Thing", "next", "LObjectLoads$Thing;", false)
  | 5 => ("ObjectLoads$Thing", "held", "Z", false)
  | _ => ("ObjectLoads$Thing", "timesAsked", "I", false)
def tyX1 : Nat → FieldType := fun k => match k with
  | 0 => .int
  | 1 => .array (.object "ObjectLoads$Thing")
  | 2 => .int
  | 3 => .int
  | 4 => .object "ObjectLoads$Thing"
  | 5 => .boolean
  | _ => .int
abbrev wsX10 : List Cond := u_ws RX1 TX1 7
theorem nmX1 : ∀ a, a < 7 → ∀ b, b < 7 → a ≠ b → (TX1 a).2.1 ≠ (TX1 b).2.1 := by decide +kernel
theorem tyX1_ok : ∀ k, k < 7 → parseFieldDescriptor (TX1 k).2.2.1 = some (tyX1 k) := by decide +kernel
abbrev cX1_init : ByteArray := prog_3_method_1_code
def yX1_init : MethodName := ⟨RX1, "<init>", "(III)V"⟩
abbrev cX1_valueCause : ByteArray := prog_3_method_2_code
def yX1_valueCause : MethodName := ⟨RX1, "valueCause", "()I"⟩
abbrev cX1_toldValue : ByteArray := prog_3_method_3_code
def yX1_toldValue : MethodName := ⟨RX1, "toldValue", "()I"⟩
def RX2 : String := "ObjectLoads$City"
def TX2 : u_T := fun k => match k with
  | 0 => ("ObjectLoads$Thing", "number", "I", true)
  | 1 => ("ObjectLoads$Thing", "places", "[LObjectLoads$Thing;", true)
  | 2 => ("ObjectLoads$Thing", "key", "I", false)
  | 3 => ("ObjectLoads$Thing", "v", "I", false)
  | 4 => ("ObjectLoads$Thing", "next", "LObjectLoads$Thing;", false)
  | 5 => ("ObjectLoads$Thing", "held", "Z", false)
  | _ => ("ObjectLoads$Thing", "timesAsked", "I", false)
def tyX2 : Nat → FieldType := fun k => match k with
  | 0 => .int
  | 1 => .array (.object "ObjectLoads$Thing")
  | 2 => .int
  | 3 => .int
  | 4 => .object "ObjectLoads$Thing"
  | 5 => .boolean
  | _ => .int
abbrev wsX20 : List Cond := u_ws RX2 TX2 7
theorem nmX2 : ∀ a, a < 7 → ∀ b, b < 7 → a ≠ b → (TX2 a).2.1 ≠ (TX2 b).2.1 := by decide +kernel
theorem tyX2_ok : ∀ k, k < 7 → parseFieldDescriptor (TX2 k).2.2.1 = some (tyX2 k) := by decide +kernel
abbrev cX2_init : ByteArray := prog_4_method_1_code
def yX2_init : MethodName := ⟨RX2, "<init>", "(III)V"⟩
abbrev cX2_toldValue : ByteArray := prog_4_method_2_code
def yX2_toldValue : MethodName := ⟨RX2, "toldValue", "()I"⟩
abbrev cX2_linkCount : ByteArray := prog_4_method_3_code
def yX2_linkCount : MethodName := ⟨RX2, "linkCount", "()I"⟩
abbrev cX2_link : ByteArray := prog_4_method_4_code
def yX2_link : MethodName := ⟨RX2, "link", "(I)LObjectLoads$Thing;"⟩
def RX3 : String := "ObjectLoads$Empty"
def TX3 : u_T := fun k => match k with
  | 0 => ("ObjectLoads$Thing", "number", "I", true)
  | 1 => ("ObjectLoads$Thing", "places", "[LObjectLoads$Thing;", true)
  | 2 => ("ObjectLoads$Thing", "key", "I", false)
  | 3 => ("ObjectLoads$Thing", "v", "I", false)
  | 4 => ("ObjectLoads$Thing", "next", "LObjectLoads$Thing;", false)
  | 5 => ("ObjectLoads$Thing", "held", "Z", false)
  | _ => ("ObjectLoads$Thing", "timesAsked", "I", false)
def tyX3 : Nat → FieldType := fun k => match k with
  | 0 => .int
  | 1 => .array (.object "ObjectLoads$Thing")
  | 2 => .int
  | 3 => .int
  | 4 => .object "ObjectLoads$Thing"
  | 5 => .boolean
  | _ => .int
abbrev wsX30 : List Cond := u_ws RX3 TX3 7
theorem nmX3 : ∀ a, a < 7 → ∀ b, b < 7 → a ≠ b → (TX3 a).2.1 ≠ (TX3 b).2.1 := by decide +kernel
theorem tyX3_ok : ∀ k, k < 7 → parseFieldDescriptor (TX3 k).2.2.1 = some (tyX3 k) := by decide +kernel
abbrev cX3_init : ByteArray := prog_5_method_1_code
def yX3_init : MethodName := ⟨RX3, "<init>", "(III)V"⟩
abbrev cX3_keyCause : ByteArray := prog_5_method_2_code
def yX3_keyCause : MethodName := ⟨RX3, "keyCause", "()I"⟩
def RX4 : String := "ObjectLoads$Graph"
def TX4 : u_T := fun k => match k with
  | 0 => ("ObjectLoads$Graph", "nodes", "[LObjectLoads$Node;", true)
  | 1 => ("ObjectLoads$Graph", "nodeOfThing", "[I", true)
  | 2 => ("ObjectLoads$Graph", "values", "[I", true)
  | 3 => ("ObjectLoads$Graph", "firstArc", "[I", true)
  | 4 => ("ObjectLoads$Graph", "arcEnds", "[I", true)
  | 5 => ("ObjectLoads$Graph", "arcWeights", "[I", true)
  | 6 => ("ObjectLoads$Graph", "arcBridged", "[Z", true)
  | 7 => ("ObjectLoads$Graph", "steps", "[I", true)
  | 8 => ("ObjectLoads$Graph", "reached", "[I", true)
  | 9 => ("ObjectLoads$Graph", "nodeCount", "I", false)
  | 10 => ("ObjectLoads$Graph", "arcCount", "I", false)
  | _ => ("ObjectLoads$Graph", "holeCount", "I", false)
def tyX4 : Nat → FieldType := fun k => match k with
  | 0 => .array (.object "ObjectLoads$Node")
  | 1 => .array .int
  | 2 => .array .int
  | 3 => .array .int
  | 4 => .array .int
  | 5 => .array .int
  | 6 => .array .boolean
  | 7 => .array .int
  | 8 => .array .int
  | 9 => .int
  | 10 => .int
  | _ => .int
abbrev wsX40 : List Cond := u_ws RX4 TX4 12
theorem nmX4 : ∀ a, a < 12 → ∀ b, b < 12 → a ≠ b → (TX4 a).2.1 ≠ (TX4 b).2.1 := by decide +kernel
theorem tyX4_ok : ∀ k, k < 12 → parseFieldDescriptor (TX4 k).2.2.1 = some (tyX4 k) := by decide +kernel
abbrev cX4_init : ByteArray := prog_6_method_1_code
def yX4_init : MethodName := ⟨RX4, "<init>", "()V"⟩
abbrev cX4_makeEmpty : ByteArray := prog_6_method_2_code
def yX4_makeEmpty : MethodName := ⟨RX4, "makeEmpty", "()V"⟩
abbrev cX4_hasNode : ByteArray := prog_6_method_3_code
def yX4_hasNode : MethodName := ⟨RX4, "hasNode", "(I)Z"⟩
abbrev cX4_arcsOf : ByteArray := prog_6_method_4_code
def yX4_arcsOf : MethodName := ⟨RX4, "arcsOf", "(I)I"⟩
abbrev cX4_findNode : ByteArray := prog_6_method_5_code
def yX4_findNode : MethodName := ⟨RX4, "findNode", "(LObjectLoads$Node;)I"⟩
abbrev cX4_addArc : ByteArray := prog_6_method_6_code
def yX4_addArc : MethodName := ⟨RX4, "addArc", "(LObjectLoads$Node;IZ)V"⟩
abbrev cX4_endArcsOf : ByteArray := prog_6_method_7_code
def yX4_endArcsOf : MethodName := ⟨RX4, "endArcsOf", "(I)V"⟩
abbrev cX4_shortestWay : ByteArray := prog_6_method_8_code
def yX4_shortestWay : MethodName := ⟨RX4, "shortestWay", "(II)I"⟩
def RX5 : String := "ObjectLoads$Masked"
def TX5 : u_T := fun k => match k with
  | 0 => ("ObjectLoads$Thing", "number", "I", true)
  | 1 => ("ObjectLoads$Thing", "places", "[LObjectLoads$Thing;", true)
  | 2 => ("ObjectLoads$Thing", "key", "I", false)
  | 3 => ("ObjectLoads$Thing", "v", "I", false)
  | 4 => ("ObjectLoads$Thing", "next", "LObjectLoads$Thing;", false)
  | 5 => ("ObjectLoads$Thing", "held", "Z", false)
  | _ => ("ObjectLoads$Thing", "timesAsked", "I", false)
def tyX5 : Nat → FieldType := fun k => match k with
  | 0 => .int
  | 1 => .array (.object "ObjectLoads$Thing")
  | 2 => .int
  | 3 => .int
  | 4 => .object "ObjectLoads$Thing"
  | 5 => .boolean
  | _ => .int
abbrev wsX50 : List Cond := u_ws RX5 TX5 7
theorem nmX5 : ∀ a, a < 7 → ∀ b, b < 7 → a ≠ b → (TX5 a).2.1 ≠ (TX5 b).2.1 := by decide +kernel
theorem tyX5_ok : ∀ k, k < 7 → parseFieldDescriptor (TX5 k).2.2.1 = some (tyX5 k) := by decide +kernel
abbrev cX5_init : ByteArray := prog_7_method_1_code
def yX5_init : MethodName := ⟨RX5, "<init>", "(III)V"⟩
abbrev cX5_toldValue : ByteArray := prog_7_method_2_code
def yX5_toldValue : MethodName := ⟨RX5, "toldValue", "()I"⟩
abbrev cX5_linksCause : ByteArray := prog_7_method_3_code
def yX5_linksCause : MethodName := ⟨RX5, "linksCause", "()I"⟩
def RX6 : String := "ObjectLoads$Node"
def TX6 : u_T := fun k => match k with
  | _ => ("", "", "", false)
def tyX6 : Nat → FieldType := fun k => match k with
  | _ => .int
abbrev wsX60 : List Cond := u_ws RX6 TX6 0
theorem nmX6 : ∀ a, a < 0 → ∀ b, b < 0 → a ≠ b → (TX6 a).2.1 ≠ (TX6 b).2.1 := by decide +kernel
theorem tyX6_ok : ∀ k, k < 0 → parseFieldDescriptor (TX6 k).2.2.1 = some (tyX6 k) := by decide +kernel
abbrev cX6_init : ByteArray := prog_8_method_1_code
def yX6_init : MethodName := ⟨RX6, "<init>", "(III)V"⟩
def RX7 : String := "ObjectLoads$Point"
def TX7 : u_T := fun k => match k with
  | 0 => ("ObjectLoads$Thing", "number", "I", true)
  | 1 => ("ObjectLoads$Thing", "places", "[LObjectLoads$Thing;", true)
  | 2 => ("ObjectLoads$Thing", "key", "I", false)
  | 3 => ("ObjectLoads$Thing", "v", "I", false)
  | 4 => ("ObjectLoads$Thing", "next", "LObjectLoads$Thing;", false)
  | 5 => ("ObjectLoads$Thing", "held", "Z", false)
  | _ => ("ObjectLoads$Thing", "timesAsked", "I", false)
def tyX7 : Nat → FieldType := fun k => match k with
  | 0 => .int
  | 1 => .array (.object "ObjectLoads$Thing")
  | 2 => .int
  | 3 => .int
  | 4 => .object "ObjectLoads$Thing"
  | 5 => .boolean
  | _ => .int
abbrev wsX70 : List Cond := u_ws RX7 TX7 7
theorem nmX7 : ∀ a, a < 7 → ∀ b, b < 7 → a ≠ b → (TX7 a).2.1 ≠ (TX7 b).2.1 := by decide +kernel
theorem tyX7_ok : ∀ k, k < 7 → parseFieldDescriptor (TX7 k).2.2.1 = some (tyX7 k) := by decide +kernel
abbrev cX7_init : ByteArray := prog_9_method_1_code
def yX7_init : MethodName := ⟨RX7, "<init>", "(III)V"⟩
abbrev cX7_linksCause : ByteArray := prog_9_method_2_code
def yX7_linksCause : MethodName := ⟨RX7, "linksCause", "()I"⟩
abbrev cX7_linkCount : ByteArray := prog_9_method_3_code
def yX7_linkCount : MethodName := ⟨RX7, "linkCount", "()I"⟩
abbrev cX7_link : ByteArray := prog_9_method_4_code
def yX7_link : MethodName := ⟨RX7, "link", "(I)LObjectLoads$Thing;"⟩
def RX8 : String := "ObjectLoads$ShortCity"
def TX8 : u_T := fun k => match k with
  | 0 => ("ObjectLoads$Thing", "number", "I", true)
  | 1 => ("ObjectLoads$Thing", "places", "[LObjectLoads$Thing;", true)
  | 2 => ("ObjectLoads$Thing", "key", "I", false)
  | 3 => ("ObjectLoads$Thing", "v", "I", false)
  | 4 => ("ObjectLoads$Thing", "next", "LObjectLoads$Thing;", false)
  | 5 => ("ObjectLoads$Thing", "held", "Z", false)
  | _ => ("ObjectLoads$Thing", "timesAsked", "I", false)
def tyX8 : Nat → FieldType := fun k => match k with
  | 0 => .int
  | 1 => .array (.object "ObjectLoads$Thing")
  | 2 => .int
  | 3 => .int
  | 4 => .object "ObjectLoads$Thing"
  | 5 => .boolean
  | _ => .int
abbrev wsX80 : List Cond := u_ws RX8 TX8 7
theorem nmX8 : ∀ a, a < 7 → ∀ b, b < 7 → a ≠ b → (TX8 a).2.1 ≠ (TX8 b).2.1 := by decide +kernel
theorem tyX8_ok : ∀ k, k < 7 → parseFieldDescriptor (TX8 k).2.2.1 = some (tyX8 k) := by decide +kernel
abbrev cX8_init : ByteArray := prog_10_method_1_code
def yX8_init : MethodName := ⟨RX8, "<init>", "(III)V"⟩
abbrev cX8_toldValue : ByteArray := prog_10_method_2_code
def yX8_toldValue : MethodName := ⟨RX8, "toldValue", "()I"⟩
abbrev cX8_linksCause : ByteArray := prog_10_method_3_code
def yX8_linksCause : MethodName := ⟨RX8, "linksCause", "()I"⟩
abbrev cX8_linkCount : ByteArray := prog_10_method_4_code
def yX8_linkCount : MethodName := ⟨RX8, "linkCount", "()I"⟩
abbrev cX8_link : ByteArray := prog_10_method_5_code
def yX8_link : MethodName := ⟨RX8, "link", "(I)LObjectLoads$Thing;"⟩
def RX9 : String := "ObjectLoads$Thing"
def TX9 : u_T := fun k => match k with
  | _ => ("", "", "", false)
def tyX9 : Nat → FieldType := fun k => match k with
  | _ => .int
abbrev wsX90 : List Cond := u_ws RX9 TX9 0
theorem nmX9 : ∀ a, a < 0 → ∀ b, b < 0 → a ≠ b → (TX9 a).2.1 ≠ (TX9 b).2.1 := by decide +kernel
theorem tyX9_ok : ∀ k, k < 0 → parseFieldDescriptor (TX9 k).2.2.1 = some (tyX9 k) := by decide +kernel
abbrev cX9_init : ByteArray := prog_11_method_1_code
def yX9_init : MethodName := ⟨RX9, "<init>", "(III)V"⟩
abbrev cX9_keyCause : ByteArray := prog_11_method_2_code
def yX9_keyCause : MethodName := ⟨RX9, "keyCause", "()I"⟩
abbrev cX9_toldKey : ByteArray := prog_11_method_3_code
def yX9_toldKey : MethodName := ⟨RX9, "toldKey", "()I"⟩
abbrev cX9_valueCause : ByteArray := prog_11_method_4_code
def yX9_valueCause : MethodName := ⟨RX9, "valueCause", "()I"⟩
abbrev cX9_toldValue : ByteArray := prog_11_method_5_code
def yX9_toldValue : MethodName := ⟨RX9, "toldValue", "()I"⟩
abbrev cX9_linksCause : ByteArray := prog_11_method_6_code
def yX9_linksCause : MethodName := ⟨RX9, "linksCause", "()I"⟩
def RX10 : String := "ObjectLoads"
def TX10 : u_T := fun k => match k with
  | 0 => ("ObjectLoads", "things", "[LObjectLoads$Thing;", true)
  | 1 => ("ObjectLoads", "thingCount", "I", false)
  | 2 => ("ObjectLoads", "loaded", "LObjectLoads$Graph;", false)
  | 3 => ("ObjectLoads", "building", "LObjectLoads$Graph;", false)
  | 4 => ("ObjectLoads", "refusedThing", "I", false)
  | 5 => ("ObjectLoads", "refusedOther", "I", false)
  | 6 => ("ObjectLoads", "refusedCause", "I", false)
  | _ => ("ObjectLoads", "failedLoads", "I", false)
def tyX10 : Nat → FieldType := fun k => match k with
  | 0 => .array (.object "ObjectLoads$Thing")
  | 1 => .int
  | 2 => .object "ObjectLoads$Graph"
  | 3 => .object "ObjectLoads$Graph"
  | 4 => .int
  | 5 => .int
  | 6 => .int
  | _ => .int
abbrev wsX100 : List Cond := u_ws RX10 TX10 8
theorem nmX10 : ∀ a, a < 8 → ∀ b, b < 8 → a ≠ b → (TX10 a).2.1 ≠ (TX10 b).2.1 := by decide +kernel
theorem tyX10_ok : ∀ k, k < 8 → parseFieldDescriptor (TX10 k).2.2.1 = some (tyX10 k) := by decide +kernel
abbrev cX10_init : ByteArray := prog_1_method_1_code
def yX10_init : MethodName := ⟨RX10, "<init>", "()V"⟩
abbrev cX10_thing : ByteArray := prog_1_method_2_code
def yX10_thing : MethodName := ⟨RX10, "thing", "(III)I"⟩
abbrev cX10_value : ByteArray := prog_1_method_3_code
def yX10_value : MethodName := ⟨RX10, "value", "(II)I"⟩
abbrev cX10_key : ByteArray := prog_1_method_4_code
def yX10_key : MethodName := ⟨RX10, "key", "(II)I"⟩
abbrev cX10_next : ByteArray := prog_1_method_5_code
def yX10_next : MethodName := ⟨RX10, "next", "(II)I"⟩
abbrev cX10_place : ByteArray := prog_1_method_6_code
def yX10_place : MethodName := ⟨RX10, "place", "(III)I"⟩
abbrev cX10_hold : ByteArray := prog_1_method_7_code
def yX10_hold : MethodName := ⟨RX10, "hold", "(IZ)I"⟩
abbrev cX10_copy : ByteArray := prog_1_method_8_code
def yX10_copy : MethodName := ⟨RX10, "copy", "(IIIII)I"⟩
abbrev cX10_load : ByteArray := prog_1_method_9_code
def yX10_load : MethodName := ⟨RX10, "load", "(IZ)I"⟩
abbrev cX10_refused : ByteArray := prog_1_method_10_code
def yX10_refused : MethodName := ⟨RX10, "refused", "(I)I"⟩
abbrev cX10_node : ByteArray := prog_1_method_11_code
def yX10_node : MethodName := ⟨RX10, "node", "(I)I"⟩
abbrev cX10_of : ByteArray := prog_1_method_12_code
def yX10_of : MethodName := ⟨RX10, "of", "(I)I"⟩
abbrev cX10_column : ByteArray := prog_1_method_13_code
def yX10_column : MethodName := ⟨RX10, "column", "(I)I"⟩
abbrev cX10_arcs : ByteArray := prog_1_method_14_code
def yX10_arcs : MethodName := ⟨RX10, "arcs", "(I)I"⟩
abbrev cX10_arc : ByteArray := prog_1_method_15_code
def yX10_arc : MethodName := ⟨RX10, "arc", "(III)I"⟩
abbrev cX10_way : ByteArray := prog_1_method_16_code
def yX10_way : MethodName := ⟨RX10, "way", "(II)I"⟩
abbrev cX10_holes : ByteArray := prog_1_method_17_code
def yX10_holes : MethodName := ⟨RX10, "holes", "()I"⟩
abbrev cX10_asked : ByteArray := prog_1_method_18_code
def yX10_asked : MethodName := ⟨RX10, "asked", "(I)I"⟩
abbrev cX10_tells : ByteArray := prog_1_method_19_code
def yX10_tells : MethodName := ⟨RX10, "tells", "(II)I"⟩
abbrev cX10_is : ByteArray := prog_1_method_20_code
def yX10_is : MethodName := ⟨RX10, "is", "(II)I"⟩
abbrev cX10_count : ByteArray := prog_1_method_21_code
def yX10_count : MethodName := ⟨RX10, "count", "(I)I"⟩
abbrev cX10_clear : ByteArray := prog_1_method_22_code
def yX10_clear : MethodName := ⟨RX10, "clear", "()I"⟩
abbrev cX10_newThing : ByteArray := prog_1_method_23_code
def yX10_newThing : MethodName := ⟨RX10, "newThing", "(IIII)LObjectLoads$Thing;"⟩
abbrev cX10_isThing : ByteArray := prog_1_method_24_code
def yX10_isThing : MethodName := ⟨RX10, "isThing", "(I)Z"⟩
abbrev cX10_isThingOrNone : ByteArray := prog_1_method_25_code
def yX10_isThingOrNone : MethodName := ⟨RX10, "isThingOrNone", "(I)Z"⟩
abbrev cX10_known : ByteArray := prog_1_method_26_code
def yX10_known : MethodName := ⟨RX10, "known", "(I)LObjectLoads$Thing;"⟩
abbrev cX10_isPlace : ByteArray := prog_1_method_27_code
def yX10_isPlace : MethodName := ⟨RX10, "isPlace", "(I)Z"⟩
abbrev cX10_isStretch : ByteArray := prog_1_method_28_code
def yX10_isStretch : MethodName := ⟨RX10, "isStretch", "(II)Z"⟩
abbrev cX10_asNumber : ByteArray := prog_1_method_29_code
def yX10_asNumber : MethodName := ⟨RX10, "asNumber", "(Z)I"⟩
abbrev cX10_toldOrFailed : ByteArray := prog_1_method_30_code
def yX10_toldOrFailed : MethodName := ⟨RX10, "toldOrFailed", "(II)I"⟩
abbrev cX10_countUpToBridge : ByteArray := prog_1_method_31_code
def yX10_countUpToBridge : MethodName := ⟨RX10, "countUpToBridge", "([LObjectLoads$Thing;II)I"⟩
abbrev cX10_copyStretch : ByteArray := prog_1_method_32_code
def yX10_copyStretch : MethodName := ⟨RX10, "copyStretch", "([LObjectLoads$Thing;I[LObjectLoads$Thing;II)V"⟩
abbrev cX10_endLoad : ByteArray := prog_1_method_33_code
def yX10_endLoad : MethodName := ⟨RX10, "endLoad", "(III)V"⟩
abbrev cX10_failed : ByteArray := prog_1_method_34_code
def yX10_failed : MethodName := ⟨RX10, "failed", "(LObjectLoads$Thing;I)Z"⟩
abbrev cX10_build : ByteArray := prog_1_method_35_code
def yX10_build : MethodName := ⟨RX10, "build", "(LObjectLoads$Node;Z)Z"⟩
abbrev cX10_askKey : ByteArray := prog_1_method_36_code
def yX10_askKey : MethodName := ⟨RX10, "askKey", "(ILObjectLoads$Node;)Z"⟩
abbrev cX10_askValue : ByteArray := prog_1_method_37_code
def yX10_askValue : MethodName := ⟨RX10, "askValue", "(ILObjectLoads$Node;)Z"⟩
abbrev cX10_askLinks : ByteArray := prog_1_method_38_code
def yX10_askLinks : MethodName := ⟨RX10, "askLinks", "(ILObjectLoads$Node;)Z"⟩
abbrev cX10_follow : ByteArray := prog_1_method_39_code
def yX10_follow : MethodName := ⟨RX10, "follow", "(LObjectLoads$Node;LObjectLoads$Thing;)Z"⟩
abbrev cX10_cross : ByteArray := prog_1_method_40_code
def yX10_cross : MethodName := ⟨RX10, "cross", "(LObjectLoads$Node;LObjectLoads$Bridge;)Z"⟩
def RX11 : String := "ObjectLoadsModel"
def TX11 : u_T := fun k => match k with
  | 0 => ("ObjectLoadsModel", "things", "I", false)
  | 1 => ("ObjectLoadsModel", "sorts", "[I", true)
  | 2 => ("ObjectLoadsModel", "keys", "[I", true)
  | 3 => ("ObjectLoadsModel", "vs", "[I", true)
  | 4 => ("ObjectLoadsModel", "nexts", "[I", true)
  | 5 => ("ObjectLoadsModel", "places", "[I", true)
  | 6 => ("ObjectLoadsModel", "isHeld", "[Z", true)
  | 7 => ("ObjectLoadsModel", "askedOf", "[I", true)
  | 8 => ("ObjectLoadsModel", "moved", "[I", true)
  | 9 => ("ObjectLoadsModel", "told", "I", false)
  | 10 => ("ObjectLoadsModel", "links", "[I", true)
  | 11 => ("ObjectLoadsModel", "linkMany", "I", false)
  | 12 => ("ObjectLoadsModel", "now", "I", false)
  | 13 => ("ObjectLoadsModel", "nodes", "[I", true)
  | 14 => ("ObjectLoadsModel", "thingOf", "[I", true)
  | 15 => ("ObjectLoadsModel", "nodeOf", "[I", true)
  | 16 => ("ObjectLoadsModel", "columns", "[I", true)
  | 17 => ("ObjectLoadsModel", "firstArc", "[I", true)
  | 18 => ("ObjectLoadsModel", "arcsIn", "[I", true)
  | 19 => ("ObjectLoadsModel", "arcTo", "[I", true)
  | 20 => ("ObjectLoadsModel", "arcWeight", "[I", true)
  | 21 => ("ObjectLoadsModel", "arcBridge", "[Z", true)
  | 22 => ("ObjectLoadsModel", "holeMany", "[I", true)
  | 23 => ("ObjectLoadsModel", "failed", "I", false)
  | 24 => ("ObjectLoadsModel", "refusedThing", "I", false)
  | 25 => ("ObjectLoadsModel", "refusedOther", "I", false)
  | 26 => ("ObjectLoadsModel", "refusedCause", "I", false)
  | 27 => ("ObjectLoadsModel", "keyOf", "[I", true)
  | _ => ("ObjectLoadsModel", "far", "[I", true)
def tyX11 : Nat → FieldType := fun k => match k with
  | 0 => .int
  | 1 => .array .int
  | 2 => .array .int
  | 3 => .array .int
  | 4 => .array .int
  | 5 => .array .int
  | 6 => .array .boolean
  | 7 => .array .int
  | 8 => .array .int
  | 9 => .int
  | 10 => .array .int
  | 11 => .int
  | 12 => .int
  | 13 => .array .int
  | 14 => .array .int
  | 15 => .array .int
  | 16 => .array .int
  | 17 => .array .int
  | 18 => .array .int
  | 19 => .array .int
  | 20 => .array .int
  | 21 => .array .boolean
  | 22 => .array .int
  | 23 => .int
  | 24 => .int
  | 25 => .int
  | 26 => .int
  | 27 => .array .int
  | _ => .array .int
abbrev wsX110 : List Cond := u_ws RX11 TX11 29
theorem nmX11 : ∀ a, a < 29 → ∀ b, b < 29 → a ≠ b → (TX11 a).2.1 ≠ (TX11 b).2.1 := by decide +kernel
theorem tyX11_ok : ∀ k, k < 29 → parseFieldDescriptor (TX11 k).2.2.1 = some (tyX11 k) := by decide +kernel
abbrev cX11_init : ByteArray := prog_13_method_1_code
def yX11_init : MethodName := ⟨RX11, "<init>", "()V"⟩
abbrev cX11_in : ByteArray := prog_13_method_3_code
def yX11_in : MethodName := ⟨RX11, "in", "(III)Z"⟩
abbrev cX11_isThing : ByteArray := prog_13_method_4_code
def yX11_isThing : MethodName := ⟨RX11, "isThing", "(I)Z"⟩
abbrev cX11_thing : ByteArray := prog_13_method_5_code
def yX11_thing : MethodName := ⟨RX11, "thing", "(III)I"⟩
abbrev cX11_value : ByteArray := prog_13_method_6_code
def yX11_value : MethodName := ⟨RX11, "value", "(II)I"⟩
abbrev cX11_key : ByteArray := prog_13_method_7_code
def yX11_key : MethodName := ⟨RX11, "key", "(II)I"⟩
abbrev cX11_next : ByteArray := prog_13_method_8_code
def yX11_next : MethodName := ⟨RX11, "next", "(II)I"⟩
abbrev cX11_place : ByteArray := prog_13_method_9_code
def yX11_place : MethodName := ⟨RX11, "place", "(III)I"⟩
abbrev cX11_hold : ByteArray := prog_13_method_10_code
def yX11_hold : MethodName := ⟨RX11, "hold", "(IZ)I"⟩
abbrev cX11_isBridge : ByteArray := prog_13_method_11_code
def yX11_isBridge : MethodName := ⟨RX11, "isBridge", "(I)Z"⟩
abbrev cX11_copy : ByteArray := prog_13_method_12_code
def yX11_copy : MethodName := ⟨RX11, "copy", "(IIIII)I"⟩
abbrev cX11_tellKey : ByteArray := prog_13_method_13_code
def yX11_tellKey : MethodName := ⟨RX11, "tellKey", "(I)I"⟩
abbrev cX11_tellValue : ByteArray := prog_13_method_14_code
def yX11_tellValue : MethodName := ⟨RX11, "tellValue", "(I)I"⟩
abbrev cX11_tellLinks : ByteArray := prog_13_method_15_code
def yX11_tellLinks : MethodName := ⟨RX11, "tellLinks", "(I)I"⟩
abbrev cX11_tellEnd : ByteArray := prog_13_method_16_code
def yX11_tellEnd : MethodName := ⟨RX11, "tellEnd", "(II)I"⟩
abbrev cX11_refuse : ByteArray := prog_13_method_17_code
def yX11_refuse : MethodName := ⟨RX11, "refuse", "(III)I"⟩
abbrev cX11_found : ByteArray := prog_13_method_18_code
def yX11_found : MethodName := ⟨RX11, "found", "(II)I"⟩
abbrev cX11_ask : ByteArray := prog_13_method_19_code
def yX11_ask : MethodName := ⟨RX11, "ask", "(IIZ)I"⟩
abbrev cX11_arcsOf : ByteArray := prog_13_method_20_code
def yX11_arcsOf : MethodName := ⟨RX11, "arcsOf", "(II)I"⟩
abbrev cX11_load : ByteArray := prog_13_method_21_code
def yX11_load : MethodName := ⟨RX11, "load", "(IZ)I"⟩
abbrev cX11_refused : ByteArray := prog_13_method_22_code
def yX11_refused : MethodName := ⟨RX11, "refused", "(I)I"⟩
abbrev cX11_node : ByteArray := prog_13_method_23_code
def yX11_node : MethodName := ⟨RX11, "node", "(I)I"⟩
abbrev cX11_isNode : ByteArray := prog_13_method_24_code
def yX11_isNode : MethodName := ⟨RX11, "isNode", "(I)Z"⟩
abbrev cX11_of : ByteArray := prog_13_method_25_code
def yX11_of : MethodName := ⟨RX11, "of", "(I)I"⟩
abbrev cX11_column : ByteArray := prog_13_method_26_code
def yX11_column : MethodName := ⟨RX11, "column", "(I)I"⟩
abbrev cX11_arcs : ByteArray := prog_13_method_27_code
def yX11_arcs : MethodName := ⟨RX11, "arcs", "(I)I"⟩
abbrev cX11_arc : ByteArray := prog_13_method_28_code
def yX11_arc : MethodName := ⟨RX11, "arc", "(III)I"⟩
abbrev cX11_way : ByteArray := prog_13_method_29_code
def yX11_way : MethodName := ⟨RX11, "way", "(II)I"⟩
abbrev cX11_holes : ByteArray := prog_13_method_30_code
def yX11_holes : MethodName := ⟨RX11, "holes", "()I"⟩
abbrev cX11_asked : ByteArray := prog_13_method_31_code
def yX11_asked : MethodName := ⟨RX11, "asked", "(I)I"⟩
abbrev cX11_tells : ByteArray := prog_13_method_32_code
def yX11_tells : MethodName := ⟨RX11, "tells", "(II)I"⟩
abbrev cX11_is : ByteArray := prog_13_method_33_code
def yX11_is : MethodName := ⟨RX11, "is", "(II)I"⟩
abbrev cX11_count : ByteArray := prog_13_method_34_code
def yX11_count : MethodName := ⟨RX11, "count", "(I)I"⟩
abbrev cX11_beginAll : ByteArray := prog_13_method_35_code
def yX11_beginAll : MethodName := ⟨RX11, "beginAll", "()V"⟩
abbrev cX11_clear : ByteArray := prog_13_method_36_code
def yX11_clear : MethodName := ⟨RX11, "clear", "()I"⟩
def RJ7 : String := "java/util/Arrays"
abbrev cJ7_fill_53178 : ByteArray := prog_14_method_103_code
def yJ7_fill_53178 : MethodName := ⟨RJ7, "fill", "([II)V"⟩
def RL : String := "ObjectLoadsLaw"
abbrev cL_law : ByteArray := code
def yL_law : MethodName := ⟨RL, "law", "([I)Z"⟩
theorem dX0_init_0 : decode cX0_init 0 = .ok (.aload_n 0, 1) := by decide +kernel
theorem dX0_init_1 : decode cX0_init 1 = .ok (.iload_n 1, 1) := by decide +kernel
theorem dX0_init_2 : decode cX0_init 2 = .ok (.iload_n 2, 1) := by decide +kernel
theorem dX0_init_3 : decode cX0_init 3 = .ok (.iload_n 3, 1) := by decide +kernel
theorem dX0_init_4 : decode cX0_init 4 = .ok (.invokespecial 1, 3) := by decide +kernel
theorem dX0_init_7 : decode cX0_init 7 = .ok (.return_, 1) := by decide +kernel
theorem dX0_linkCount_0 : decode cX0_linkCount 0 = .ok (.iconst 2, 1) := by decide +kernel
theorem dX0_linkCount_1 : decode cX0_linkCount 1 = .ok (.ireturn, 1) := by decide +kernel
theorem dX0_otherEnd_0 : decode cX0_otherEnd 0 = .ok (.aload_n 0, 1) := by decide +kernel
theorem dX0_otherEnd_1 : decode cX0_otherEnd 1 = .ok (.getfield 7, 3) := by decide +kernel
theorem dX0_otherEnd_4 : decode cX0_otherEnd 4 = .ok (.iconst 0, 1) := by decide +kernel
theorem dX0_otherEnd_5 : decode cX0_otherEnd 5 = .ok (.aaload, 1) := by decide +kernel
theorem dX0_otherEnd_6 : decode cX0_otherEnd 6 = .ok (.aload_n 1, 1) := by decide +kernel
theorem dX0_otherEnd_7 : decode cX0_otherEnd 7 = .ok (.if_acmp .ne 12, 3) := by decide +kernel
theorem dX0_otherEnd_10 : decode cX0_otherEnd 10 = .ok (.aload_n 0, 1) := by decide +kernel
theorem dX0_otherEnd_11 : decode cX0_otherEnd 11 = .ok (.getfield 7, 3) := by decide +kernel
theorem dX0_otherEnd_14 : decode cX0_otherEnd 14 = .ok (.iconst 1, 1) := by decide +kernel
theorem dX0_otherEnd_15 : decode cX0_otherEnd 15 = .ok (.aaload, 1) := by decide +kernel
theorem dX0_otherEnd_16 : decode cX0_otherEnd 16 = .ok (.goto 9, 3) := by decide +kernel
theorem dX0_otherEnd_19 : decode cX0_otherEnd 19 = .ok (.aload_n 0, 1) := by decide +kernel
theorem dX0_otherEnd_20 : decode cX0_otherEnd 20 = .ok (.getfield 7, 3) := by decide +kernel
theorem dX0_otherEnd_23 : decode cX0_otherEnd 23 = .ok (.iconst 0, 1) := by decide +kernel
theorem dX0_otherEnd_24 : decode cX0_otherEnd 24 = .ok (.aaload, 1) := by decide +kernel
theorem dX0_otherEnd_25 : decode cX0_otherEnd 25 = .ok (.areturn, 1) := by decide +kernel
theorem dX1_init_0 : decode cX1_init 0 = .ok (.aload_n 0, 1) := by decide +kernel
theorem dX1_init_1 : decode cX1_init 1 = .ok (.iload_n 1, 1) := by decide +kernel
theorem dX1_init_2 : decode cX1_init 2 = .ok (.iload_n 2, 1) := by decide +kernel
theorem dX1_init_3 : decode cX1_init 3 = .ok (.iload_n 3, 1) := by decide +kernel
theorem dX1_init_4 : decode cX1_init 4 = .ok (.invokespecial 3, 3) := by decide +kernel
theorem dX1_init_7 : decode cX1_init 7 = .ok (.return_, 1) := by decide +kernel
theorem dX1_valueCause_0 : decode cX1_valueCause 0 = .ok (.aload_n 0, 1) := by decide +kernel
theorem dX1_valueCause_1 : decode cX1_valueCause 1 = .ok (.getfield 9, 3) := by decide +kernel
theorem dX1_valueCause_4 : decode cX1_valueCause 4 = .ok (.ifCond .ne 7, 3) := by decide +kernel
theorem dX1_valueCause_7 : decode cX1_valueCause 7 = .ok (.iconst 4, 1) := by decide +kernel
theorem dX1_valueCause_8 : decode cX1_valueCause 8 = .ok (.goto 4, 3) := by decide +kernel
theorem dX1_valueCause_11 : decode cX1_valueCause 11 = .ok (.iconst 0, 1) := by decide +kernel
theorem dX1_valueCause_12 : decode cX1_valueCause 12 = .ok (.ireturn, 1) := by decide +kernel
theorem dX1_toldValue_0 : decode cX1_toldValue 0 = .ok (.aload_n 0, 1) := by decide +kernel
theorem dX1_toldValue_1 : decode cX1_toldValue 1 = .ok (.getfield 9, 3) := by decide +kernel
theorem dX1_toldValue_4 : decode cX1_toldValue 4 = .ok (.ifCond .ne 7, 3) := by decide +kernel
theorem dX1_toldValue_7 : decode cX1_toldValue 7 = .ok (.iconst 0, 1) := by decide +kernel
theorem dX1_toldValue_8 : decode cX1_toldValue 8 = .ok (.goto 10, 3) := by decide +kernel
theorem dX1_toldValue_11 : decode cX1_toldValue 11 = .ok (.bipush 100, 2) := by decide +kernel
theorem dX1_toldValue_13 : decode cX1_toldValue 13 = .ok (.aload_n 0, 1) := by decide +kernel
theorem dX1_toldValue_14 : decode cX1_toldValue 14 = .ok (.getfield 9, 3) := by decide +kernel
theorem dX1_toldValue_17 : decode cX1_toldValue 17 = .ok (.idiv, 1) := by decide +kernel
theorem dX1_toldValue_18 : decode cX1_toldValue 18 = .ok (.ireturn, 1) := by decide +kernel
theorem dX2_init_0 : decode cX2_init 0 = .ok (.aload_n 0, 1) := by decide +kernel
theorem dX2_init_1 : decode cX2_init 1 = .ok (.iload_n 1, 1) := by decide +kernel
theorem dX2_init_2 : decode cX2_init 2 = .ok (.iload_n 2, 1) := by decide +kernel
theorem dX2_init_3 : decode cX2_init 3 = .ok (.iload_n 3, 1) := by decide +kernel
theorem dX2_init_4 : decode cX2_init 4 = .ok (.invokespecial 3, 3) := by decide +kernel
theorem dX2_init_7 : decode cX2_init 7 = .ok (.return_, 1) := by decide +kernel
theorem dX2_toldValue_0 : decode cX2_toldValue 0 = .ok (.iconst 2, 1) := by decide +kernel
theorem dX2_toldValue_1 : decode cX2_toldValue 1 = .ok (.aload_n 0, 1) := by decide +kernel
theorem dX2_toldValue_2 : decode cX2_toldValue 2 = .ok (.getfield 9, 3) := by decide +kernel
theorem dX2_toldValue_5 : decode cX2_toldValue 5 = .ok (.imul, 1) := by decide +kernel
theorem dX2_toldValue_6 : decode cX2_toldValue 6 = .ok (.ireturn, 1) := by decide +kernel
theorem dX2_linkCount_0 : decode cX2_linkCount 0 = .ok (.bipush 6, 2) := by decide +kernel
theorem dX2_linkCount_2 : decode cX2_linkCount 2 = .ok (.ireturn, 1) := by decide +kernel
theorem dX2_link_0 : decode cX2_link 0 = .ok (.iload_n 1, 1) := by decide +kernel
theorem dX2_link_1 : decode cX2_link 1 = .ok (.invokestatic 15, 3) := by decide +kernel
theorem dX2_link_4 : decode cX2_link 4 = .ok (.ifCond .eq 12, 3) := by decide +kernel
theorem dX2_link_7 : decode cX2_link 7 = .ok (.aload_n 0, 1) := by decide +kernel
theorem dX2_link_8 : decode cX2_link 8 = .ok (.getfield 19, 3) := by decide +kernel
theorem dX2_link_11 : decode cX2_link 11 = .ok (.iload_n 1, 1) := by decide +kernel
theorem dX2_link_12 : decode cX2_link 12 = .ok (.aaload, 1) := by decide +kernel
theorem dX2_link_13 : decode cX2_link 13 = .ok (.goto 4, 3) := by decide +kernel
theorem dX2_link_16 : decode cX2_link 16 = .ok (.aconst_null, 1) := by decide +kernel
theorem dX2_link_17 : decode cX2_link 17 = .ok (.areturn, 1) := by decide +kernel
theorem dX3_init_0 : decode cX3_init 0 = .ok (.aload_n 0, 1) := by decide +kernel
theorem dX3_init_1 : decode cX3_init 1 = .ok (.iload_n 1, 1) := by decide +kernel
theorem dX3_init_2 : decode cX3_init 2 = .ok (.iload_n 2, 1) := by decide +kernel
theorem dX3_init_3 : decode cX3_init 3 = .ok (.iload_n 3, 1) := by decide +kernel
theorem dX3_init_4 : decode cX3_init 4 = .ok (.invokespecial 3, 3) := by decide +kernel
theorem dX3_init_7 : decode cX3_init 7 = .ok (.return_, 1) := by decide +kernel
theorem dX3_keyCause_0 : decode cX3_keyCause 0 = .ok (.aload_n 0, 1) := by decide +kernel
theorem dX3_keyCause_1 : decode cX3_keyCause 1 = .ok (.getfield 9, 3) := by decide +kernel
theorem dX3_keyCause_4 : decode cX3_keyCause 4 = .ok (.ifCond .eq 7, 3) := by decide +kernel
theorem dX3_keyCause_7 : decode cX3_keyCause 7 = .ok (.iconst 0, 1) := by decide +kernel
theorem dX3_keyCause_8 : decode cX3_keyCause 8 = .ok (.goto 4, 3) := by decide +kernel
theorem dX3_keyCause_11 : decode cX3_keyCause 11 = .ok (.iconst 1, 1) := by decide +kernel
theorem dX3_keyCause_12 : decode cX3_keyCause 12 = .ok (.ireturn, 1) := by decide +kernel
theorem dX4_init_0 : decode cX4_init 0 = .ok (.aload_n 0, 1) := by decide +kernel
theorem dX4_init_1 : decode cX4_init 1 = .ok (.invokespecial 3, 3) := by decide +kernel
theorem dX4_init_4 : decode cX4_init 4 = .ok (.aload_n 0, 1) := by decide +kernel
theorem dX4_init_5 : decode cX4_init 5 = .ok (.bipush 40, 2) := by decide +kernel
theorem dX4_init_7 : decode cX4_init 7 = .ok (.anewarray 9, 3) := by decide +kernel
theorem dX4_init_10 : decode cX4_init 10 = .ok (.putfield 11, 3) := by decide +kernel
theorem dX4_init_13 : decode cX4_init 13 = .ok (.aload_n 0, 1) := by decide +kernel
theorem dX4_init_14 : decode cX4_init 14 = .ok (.bipush 40, 2) := by decide +kernel
theorem dX4_init_16 : decode cX4_init 16 = .ok (.newarray .int, 2) := by decide +kernel
theorem dX4_init_18 : decode cX4_init 18 = .ok (.putfield 17, 3) := by decide +kernel
theorem dX4_init_21 : decode cX4_init 21 = .ok (.aload_n 0, 1) := by decide +kernel
theorem dX4_init_22 : decode cX4_init 22 = .ok (.bipush 40, 2) := by decide +kernel
theorem dX4_init_24 : decode cX4_init 24 = .ok (.newarray .int, 2) := by decide +kernel
theorem dX4_init_26 : decode cX4_init 26 = .ok (.putfield 21, 3) := by decide +kernel
theorem dX4_init_29 : decode cX4_init 29 = .ok (.aload_n 0, 1) := by decide +kernel
theorem dX4_init_30 : decode cX4_init 30 = .ok (.bipush 41, 2) := by decide +kernel
theorem dX4_init_32 : decode cX4_init 32 = .ok (.newarray .int, 2) := by decide +kernel
theorem dX4_init_34 : decode cX4_init 34 = .ok (.putfield 24, 3) := by decide +kernel
theorem dX4_init_37 : decode cX4_init 37 = .ok (.aload_n 0, 1) := by decide +kernel
theorem dX4_init_38 : decode cX4_init 38 = .ok (.sipush 240, 3) := by decide +kernel
theorem dX4_init_41 : decode cX4_init 41 = .ok (.newarray .int, 2) := by decide +kernel
theorem dX4_init_43 : decode cX4_init 43 = .ok (.putfield 27, 3) := by decide +kernel
theorem dX4_init_46 : decode cX4_init 46 = .ok (.aload_n 0, 1) := by decide +kernel
theorem dX4_init_47 : decode cX4_init 47 = .ok (.sipush 240, 3) := by decide +kernel
theorem dX4_init_50 : decode cX4_init 50 = .ok (.newarray .int, 2) := by decide +kernel
theorem dX4_init_52 : decode cX4_init 52 = .ok (.putfield 30, 3) := by decide +kernel
theorem dX4_init_55 : decode cX4_init 55 = .ok (.aload_n 0, 1) := by decide +kernel
theorem dX4_init_56 : decode cX4_init 56 = .ok (.sipush 240, 3) := by decide +kernel
theorem dX4_init_59 : decode cX4_init 59 = .ok (.newarray .boolean, 2) := by decide +kernel
theorem dX4_init_61 : decode cX4_init 61 = .ok (.putfield 33, 3) := by decide +kernel
theorem dX4_init_64 : decode cX4_init 64 = .ok (.aload_n 0, 1) := by decide +kernel
theorem dX4_init_65 : decode cX4_init 65 = .ok (.bipush 40, 2) := by decide +kernel
theorem dX4_init_67 : decode cX4_init 67 = .ok (.newarray .int, 2) := by decide +kernel
theorem dX4_init_69 : decode cX4_init 69 = .ok (.putfield 37, 3) := by decide +kernel
theorem dX4_init_72 : decode cX4_init 72 = .ok (.aload_n 0, 1) := by decide +kernel
theorem dX4_init_73 : decode cX4_init 73 = .ok (.bipush 40, 2) := by decide +kernel
theorem dX4_init_75 : decode cX4_init 75 = .ok (.newarray .int, 2) := by decide +kernel
theorem dX4_init_77 : decode cX4_init 77 = .ok (.putfield 40, 3) := by decide +kernel
theorem dX4_init_80 : decode cX4_init 80 = .ok (.aload_n 0, 1) := by decide +kernel
theorem dX4_init_81 : decode cX4_init 81 = .ok (.iconst 0, 1) := by decide +kernel
theorem dX4_init_82 : decode cX4_init 82 = .ok (.putfield 43, 3) := by decide +kernel
theorem dX4_init_85 : decode cX4_init 85 = .ok (.aload_n 0, 1) := by decide +kernel
theorem dX4_init_86 : decode cX4_init 86 = .ok (.iconst 0, 1) := by decide +kernel
theorem dX4_init_87 : decode cX4_init 87 = .ok (.putfield 47, 3) := by decide +kernel
theorem dX4_init_90 : decode cX4_init 90 = .ok (.aload_n 0, 1) := by decide +kernel
theorem dX4_init_91 : decode cX4_init 91 = .ok (.iconst 0, 1) := by decide +kernel
theorem dX4_init_92 : decode cX4_init 92 = .ok (.putfield 50, 3) := by decide +kernel
theorem dX4_init_95 : decode cX4_init 95 = .ok (.aload_n 0, 1) := by decide +kernel
theorem dX4_init_96 : decode cX4_init 96 = .ok (.getfield 17, 3) := by decide +kernel
theorem dX4_init_99 : decode cX4_init 99 = .ok (.ldc 53, 2) := by decide +kernel
theorem dX4_init_101 : decode cX4_init 101 = .ok (.invokestatic 54, 3) := by decide +kernel
theorem dX4_init_104 : decode cX4_init 104 = .ok (.return_, 1) := by decide +kernel
theorem dX4_makeEmpty_0 : decode cX4_makeEmpty 0 = .ok (.aload_n 0, 1) := by decide +kernel
theorem dX4_makeEmpty_1 : decode cX4_makeEmpty 1 = .ok (.getfield 17, 3) := by decide +kernel
theorem dX4_makeEmpty_4 : decode cX4_makeEmpty 4 = .ok (.ldc 53, 2) := by decide +kernel
theorem dX4_makeEmpty_6 : decode cX4_makeEmpty 6 = .ok (.invokestatic 54, 3) := by decide +kernel
theorem dX4_makeEmpty_9 : decode cX4_makeEmpty 9 = .ok (.aload_n 0, 1) := by decide +kernel
theorem dX4_makeEmpty_10 : decode cX4_makeEmpty 10 = .ok (.iconst 0, 1) := by decide +kernel
theorem dX4_makeEmpty_11 : decode cX4_makeEmpty 11 = .ok (.putfield 43, 3) := by decide +kernel
theorem dX4_makeEmpty_14 : decode cX4_makeEmpty 14 = .ok (.aload_n 0, 1) := by decide +kernel
theorem dX4_makeEmpty_15 : decode cX4_makeEmpty 15 = .ok (.iconst 0, 1) := by decide +kernel
theorem dX4_makeEmpty_16 : decode cX4_makeEmpty 16 = .ok (.putfield 47, 3) := by decide +kernel
theorem dX4_makeEmpty_19 : decode cX4_makeEmpty 19 = .ok (.aload_n 0, 1) := by decide +kernel
theorem dX4_makeEmpty_20 : decode cX4_makeEmpty 20 = .ok (.iconst 0, 1) := by decide +kernel
theorem dX4_makeEmpty_21 : decode cX4_makeEmpty 21 = .ok (.putfield 50, 3) := by decide +kernel
theorem dX4_makeEmpty_24 : decode cX4_makeEmpty 24 = .ok (.return_, 1) := by decide +kernel
theorem dX4_hasNode_0 : decode cX4_hasNode 0 = .ok (.iload_n 1, 1) := by decide +kernel
theorem dX4_hasNode_1 : decode cX4_hasNode 1 = .ok (.ifCond .lt 15, 3) := by decide +kernel
theorem dX4_hasNode_4 : decode cX4_hasNode 4 = .ok (.iload_n 1, 1) := by decide +kernel
theorem dX4_hasNode_5 : decode cX4_hasNode 5 = .ok (.aload_n 0, 1) := by decide +kernel
theorem dX4_hasNode_6 : decode cX4_hasNode 6 = .ok (.getfield 43, 3) := by decide +kernel
theorem dX4_hasNode_9 : decode cX4_hasNode 9 = .ok (.if_icmp .ge 7, 3) := by decide +kernel
theorem dX4_hasNode_12 : decode cX4_hasNode 12 = .ok (.iconst 1, 1) := by decide +kernel
theorem dX4_hasNode_13 : decode cX4_hasNode 13 = .ok (.goto 4, 3) := by decide +kernel
theorem dX4_hasNode_16 : decode cX4_hasNode 16 = .ok (.iconst 0, 1) := by decide +kernel
theorem dX4_hasNode_17 : decode cX4_hasNode 17 = .ok (.ireturn, 1) := by decide +kernel
theorem dX4_arcsOf_0 : decode cX4_arcsOf 0 = .ok (.aload_n 0, 1) := by decide +kernel
theorem dX4_arcsOf_1 : decode cX4_arcsOf 1 = .ok (.getfield 24, 3) := by decide +kernel
theorem dX4_arcsOf_4 : decode cX4_arcsOf 4 = .ok (.iload_n 1, 1) := by decide +kernel
theorem dX4_arcsOf_5 : decode cX4_arcsOf 5 = .ok (.iconst 1, 1) := by decide +kernel
theorem dX4_arcsOf_6 : decode cX4_arcsOf 6 = .ok (.iadd, 1) := by decide +kernel
theorem dX4_arcsOf_7 : decode cX4_arcsOf 7 = .ok (.iaload, 1) := by decide +kernel
theorem dX4_arcsOf_8 : decode cX4_arcsOf 8 = .ok (.aload_n 0, 1) := by decide +kernel
theorem dX4_arcsOf_9 : decode cX4_arcsOf 9 = .ok (.getfield 24, 3) := by decide +kernel
theorem dX4_arcsOf_12 : decode cX4_arcsOf 12 = .ok (.iload_n 1, 1) := by decide +kernel
theorem dX4_arcsOf_13 : decode cX4_arcsOf 13 = .ok (.iaload, 1) := by decide +kernel
theorem dX4_arcsOf_14 : decode cX4_arcsOf 14 = .ok (.isub, 1) := by decide +kernel
theorem dX4_arcsOf_15 : decode cX4_arcsOf 15 = .ok (.ireturn, 1) := by decide +kernel
theorem dX4_findNode_0 : decode cX4_findNode 0 = .ok (.aload_n 0, 1) := by decide +kernel
theorem dX4_findNode_1 : decode cX4_findNode 1 = .ok (.getfield 17, 3) := by decide +kernel
theorem dX4_findNode_4 : decode cX4_findNode 4 = .ok (.aload_n 1, 1) := by decide +kernel
theorem dX4_findNode_5 : decode cX4_findNode 5 = .ok (.getfield 60, 3) := by decide +kernel
theorem dX4_findNode_8 : decode cX4_findNode 8 = .ok (.iaload, 1) := by decide +kernel
theorem dX4_findNode_9 : decode cX4_findNode 9 = .ok (.istore_n 2, 1) := by decide +kernel
theorem dX4_findNode_10 : decode cX4_findNode 10 = .ok (.iload_n 2, 1) := by decide +kernel
theorem dX4_findNode_11 : decode cX4_findNode 11 = .ok (.ldc 53, 2) := by decide +kernel
theorem dX4_findNode_13 : decode cX4_findNode 13 = .ok (.if_icmp .ne 35, 3) := by decide +kernel
theorem dX4_findNode_16 : decode cX4_findNode 16 = .ok (.aload_n 0, 1) := by decide +kernel
theorem dX4_findNode_17 : decode cX4_findNode 17 = .ok (.getfield 43, 3) := by decide +kernel
theorem dX4_findNode_20 : decode cX4_findNode 20 = .ok (.istore_n 2, 1) := by decide +kernel
theorem dX4_findNode_21 : decode cX4_findNode 21 = .ok (.aload_n 0, 1) := by decide +kernel
theorem dX4_findNode_22 : decode cX4_findNode 22 = .ok (.getfield 11, 3) := by decide +kernel
theorem dX4_findNode_25 : decode cX4_findNode 25 = .ok (.iload_n 2, 1) := by decide +kernel
theorem dX4_findNode_26 : decode cX4_findNode 26 = .ok (.aload_n 1, 1) := by decide +kernel
theorem dX4_findNode_27 : decode cX4_findNode 27 = .ok (.aastore, 1) := by decide +kernel
theorem dX4_findNode_28 : decode cX4_findNode 28 = .ok (.aload_n 0, 1) := by decide +kernel
theorem dX4_findNode_29 : decode cX4_findNode 29 = .ok (.getfield 17, 3) := by decide +kernel
theorem dX4_findNode_32 : decode cX4_findNode 32 = .ok (.aload_n 1, 1) := by decide +kernel
theorem dX4_findNode_33 : decode cX4_findNode 33 = .ok (.getfield 60, 3) := by decide +kernel
theorem dX4_findNode_36 : decode cX4_findNode 36 = .ok (.iload_n 2, 1) := by decide +kernel
theorem dX4_findNode_37 : decode cX4_findNode 37 = .ok (.iastore, 1) := by decide +kernel
theorem dX4_findNode_38 : decode cX4_findNode 38 = .ok (.aload_n 0, 1) := by decide +kernel
theorem dX4_findNode_39 : decode cX4_findNode 39 = .ok (.dup, 1) := by decide +kernel
theorem dX4_findNode_40 : decode cX4_findNode 40 = .ok (.getfield 43, 3) := by decide +kernel
theorem dX4_findNode_43 : decode cX4_findNode 43 = .ok (.iconst 1, 1) := by decide +kernel
theorem dX4_findNode_44 : decode cX4_findNode 44 = .ok (.iadd, 1) := by decide +kernel
theorem dX4_findNode_45 : decode cX4_findNode 45 = .ok (.putfield 43, 3) := by decide +kernel
theorem dX4_findNode_48 : decode cX4_findNode 48 = .ok (.iload_n 2, 1) := by decide +kernel
theorem dX4_findNode_49 : decode cX4_findNode 49 = .ok (.ireturn, 1) := by decide +kernel
theorem dX4_addArc_0 : decode cX4_addArc 0 = .ok (.aload_n 0, 1) := by decide +kernel
theorem dX4_addArc_1 : decode cX4_addArc 1 = .ok (.getfield 27, 3) := by decide +kernel
theorem dX4_addArc_4 : decode cX4_addArc 4 = .ok (.aload_n 0, 1) := by decide +kernel
theorem dX4_addArc_5 : decode cX4_addArc 5 = .ok (.getfield 47, 3) := by decide +kernel
theorem dX4_addArc_8 : decode cX4_addArc 8 = .ok (.aload_n 0, 1) := by decide +kernel
theorem dX4_addArc_9 : decode cX4_addArc 9 = .ok (.aload_n 1, 1) := by decide +kernel
theorem dX4_addArc_10 : decode cX4_addArc 10 = .ok (.invokevirtual 63, 3) := by decide +kernel
theorem dX4_addArc_13 : decode cX4_addArc 13 = .ok (.iastore, 1) := by decide +kernel
theorem dX4_addArc_14 : decode cX4_addArc 14 = .ok (.aload_n 0, 1) := by decide +kernel
theorem dX4_addArc_15 : decode cX4_addArc 15 = .ok (.getfield 30, 3) := by decide +kernel
theorem dX4_addArc_18 : decode cX4_addArc 18 = .ok (.aload_n 0, 1) := by decide +kernel
theorem dX4_addArc_19 : decode cX4_addArc 19 = .ok (.getfield 47, 3) := by decide +kernel
theorem dX4_addArc_22 : decode cX4_addArc 22 = .ok (.iload_n 2, 1) := by decide +kernel
theorem dX4_addArc_23 : decode cX4_addArc 23 = .ok (.iastore, 1) := by decide +kernel
theorem dX4_addArc_24 : decode cX4_addArc 24 = .ok (.aload_n 0, 1) := by decide +kernel
theorem dX4_addArc_25 : decode cX4_addArc 25 = .ok (.getfield 33, 3) := by decide +kernel
theorem dX4_addArc_28 : decode cX4_addArc 28 = .ok (.aload_n 0, 1) := by decide +kernel
theorem dX4_addArc_29 : decode cX4_addArc 29 = .ok (.getfield 47, 3) := by decide +kernel
theorem dX4_addArc_32 : decode cX4_addArc 32 = .ok (.iload_n 3, 1) := by decide +kernel
theorem dX4_addArc_33 : decode cX4_addArc 33 = .ok (.bastore, 1) := by decide +kernel
theorem dX4_addArc_34 : decode cX4_addArc 34 = .ok (.aload_n 0, 1) := by decide +kernel
theorem dX4_addArc_35 : decode cX4_addArc 35 = .ok (.dup, 1) := by decide +kernel
theorem dX4_addArc_36 : decode cX4_addArc 36 = .ok (.getfield 47, 3) := by decide +kernel
theorem dX4_addArc_39 : decode cX4_addArc 39 = .ok (.iconst 1, 1) := by decide +kernel
theorem dX4_addArc_40 : decode cX4_addArc 40 = .ok (.iadd, 1) := by decide +kernel
theorem dX4_addArc_41 : decode cX4_addArc 41 = .ok (.putfield 47, 3) := by decide +kernel
theorem dX4_addArc_44 : decode cX4_addArc 44 = .ok (.return_, 1) := by decide +kernel
theorem dX4_endArcsOf_0 : decode cX4_endArcsOf 0 = .ok (.aload_n 0, 1) := by decide +kernel
theorem dX4_endArcsOf_1 : decode cX4_endArcsOf 1 = .ok (.getfield 24, 3) := by decide +kernel
theorem dX4_endArcsOf_4 : decode cX4_endArcsOf 4 = .ok (.iload_n 1, 1) := by decide +kernel
theorem dX4_endArcsOf_5 : decode cX4_endArcsOf 5 = .ok (.iconst 1, 1) := by decide +kernel
theorem dX4_endArcsOf_6 : decode cX4_endArcsOf 6 = .ok (.iadd, 1) := by decide +kernel
theorem dX4_endArcsOf_7 : decode cX4_endArcsOf 7 = .ok (.aload_n 0, 1) := by decide +kernel
theorem dX4_endArcsOf_8 : decode cX4_endArcsOf 8 = .ok (.getfield 47, 3) := by decide +kernel
theorem dX4_endArcsOf_11 : decode cX4_endArcsOf 11 = .ok (.iastore, 1) := by decide +kernel
theorem dX4_endArcsOf_12 : decode cX4_endArcsOf 12 = .ok (.return_, 1) := by decide +kernel
theorem dX4_shortestWay_0 : decode cX4_shortestWay 0 = .ok (.aload_n 0, 1) := by decide +kernel
theorem dX4_shortestWay_1 : decode cX4_shortestWay 1 = .ok (.getfield 37, 3) := by decide +kernel
theorem dX4_shortestWay_4 : decode cX4_shortestWay 4 = .ok (.ldc 53, 2) := by decide +kernel
theorem dX4_shortestWay_6 : decode cX4_shortestWay 6 = .ok (.invokestatic 54, 3) := by decide +kernel
theorem dX4_shortestWay_9 : decode cX4_shortestWay 9 = .ok (.aload_n 0, 1) := by decide +kernel
theorem dX4_shortestWay_10 : decode cX4_shortestWay 10 = .ok (.getfield 37, 3) := by decide +kernel
theorem dX4_shortestWay_13 : decode cX4_shortestWay 13 = .ok (.iload_n 1, 1) := by decide +kernel
theorem dX4_shortestWay_14 : decode cX4_shortestWay 14 = .ok (.iconst 0, 1) := by decide +kernel
theorem dX4_shortestWay_15 : decode cX4_shortestWay 15 = .ok (.iastore, 1) := by decide +kernel
theorem dX4_shortestWay_16 : decode cX4_shortestWay 16 = .ok (.aload_n 0, 1) := by decide +kernel
theorem dX4_shortestWay_17 : decode cX4_shortestWay 17 = .ok (.getfield 40, 3) := by decide +kernel
theorem dX4_shortestWay_20 : decode cX4_shortestWay 20 = .ok (.iconst 0, 1) := by decide +kernel
theorem dX4_shortestWay_21 : decode cX4_shortestWay 21 = .ok (.iload_n 1, 1) := by decide +kernel
theorem dX4_shortestWay_22 : decode cX4_shortestWay 22 = .ok (.iastore, 1) := by decide +kernel
theorem dX4_shortestWay_23 : decode cX4_shortestWay 23 = .ok (.iconst 1, 1) := by decide +kernel
theorem dX4_shortestWay_24 : decode cX4_shortestWay 24 = .ok (.istore_n 3, 1) := by decide +kernel
theorem dX4_shortestWay_25 : decode cX4_shortestWay 25 = .ok (.iconst 0, 1) := by decide +kernel
theorem dX4_shortestWay_26 : decode cX4_shortestWay 26 = .ok (.istore 4, 2) := by decide +kernel
theorem dX4_shortestWay_28 : decode cX4_shortestWay 28 = .ok (.iload 4, 2) := by decide +kernel
theorem dX4_shortestWay_30 : decode cX4_shortestWay 30 = .ok (.bipush 40, 2) := by decide +kernel
theorem dX4_shortestWay_32 : decode cX4_shortestWay 32 = .ok (.if_icmp .ge 101, 3) := by decide +kernel
theorem dX4_shortestWay_35 : decode cX4_shortestWay 35 = .ok (.iload 4, 2) := by decide +kernel
theorem dX4_shortestWay_37 : decode cX4_shortestWay 37 = .ok (.iload_n 3, 1) := by decide +kernel
theorem dX4_shortestWay_38 : decode cX4_shortestWay 38 = .ok (.if_icmp .ge 95, 3) := by decide +kernel
theorem dX4_shortestWay_41 : decode cX4_shortestWay 41 = .ok (.aload_n 0, 1) := by decide +kernel
theorem dX4_shortestWay_42 : decode cX4_shortestWay 42 = .ok (.getfield 40, 3) := by decide +kernel
theorem dX4_shortestWay_45 : decode cX4_shortestWay 45 = .ok (.iload 4, 2) := by decide +kernel
theorem dX4_shortestWay_47 : decode cX4_shortestWay 47 = .ok (.iaload, 1) := by decide +kernel
theorem dX4_shortestWay_48 : decode cX4_shortestWay 48 = .ok (.istore 5, 2) := by decide +kernel
theorem dX4_shortestWay_50 : decode cX4_shortestWay 50 = .ok (.aload_n 0, 1) := by decide +kernel
theorem dX4_shortestWay_51 : decode cX4_shortestWay 51 = .ok (.getfield 24, 3) := by decide +kernel
theorem dX4_shortestWay_54 : decode cX4_shortestWay 54 = .ok (.iload 5, 2) := by decide +kernel
theorem dX4_shortestWay_56 : decode cX4_shortestWay 56 = .ok (.iaload, 1) := by decide +kernel
theorem dX4_shortestWay_57 : decode cX4_shortestWay 57 = .ok (.istore 6, 2) := by decide +kernel
theorem dX4_shortestWay_59 : decode cX4_shortestWay 59 = .ok (.iload 6, 2) := by decide +kernel
theorem dX4_shortestWay_61 : decode cX4_shortestWay 61 = .ok (.aload_n 0, 1) := by decide +kernel
theorem dX4_shortestWay_62 : decode cX4_shortestWay 62 = .ok (.getfield 24, 3) := by decide +kernel
theorem dX4_shortestWay_65 : decode cX4_shortestWay 65 = .ok (.iload 5, 2) := by decide +kernel
theorem dX4_shortestWay_67 : decode cX4_shortestWay 67 = .ok (.iconst 1, 1) := by decide +kernel
theorem dX4_shortestWay_68 : decode cX4_shortestWay 68 = .ok (.iadd, 1) := by decide +kernel
theorem dX4_shortestWay_69 : decode cX4_shortestWay 69 = .ok (.iaload, 1) := by decide +kernel
theorem dX4_shortestWay_70 : decode cX4_shortestWay 70 = .ok (.if_icmp .ge 57, 3) := by decide +kernel
theorem dX4_shortestWay_73 : decode cX4_shortestWay 73 = .ok (.aload_n 0, 1) := by decide +kernel
theorem dX4_shortestWay_74 : decode cX4_shortestWay 74 = .ok (.getfield 27, 3) := by decide +kernel
theorem dX4_shortestWay_77 : decode cX4_shortestWay 77 = .ok (.iload 6, 2) := by decide +kernel
theorem dX4_shortestWay_79 : decode cX4_shortestWay 79 = .ok (.iaload, 1) := by decide +kernel
theorem dX4_shortestWay_80 : decode cX4_shortestWay 80 = .ok (.istore 7, 2) := by decide +kernel
theorem dX4_shortestWay_82 : decode cX4_shortestWay 82 = .ok (.aload_n 0, 1) := by decide +kernel
theorem dX4_shortestWay_83 : decode cX4_shortestWay 83 = .ok (.getfield 37, 3) := by decide +kernel
theorem dX4_shortestWay_86 : decode cX4_shortestWay 86 = .ok (.iload 7, 2) := by decide +kernel
theorem dX4_shortestWay_88 : decode cX4_shortestWay 88 = .ok (.iaload, 1) := by decide +kernel
theorem dX4_shortestWay_89 : decode cX4_shortestWay 89 = .ok (.ldc 53, 2) := by decide +kernel
theorem dX4_shortestWay_91 : decode cX4_shortestWay 91 = .ok (.if_icmp .ne 30, 3) := by decide +kernel
theorem dX4_shortestWay_94 : decode cX4_shortestWay 94 = .ok (.aload_n 0, 1) := by decide +kernel
theorem dX4_shortestWay_95 : decode cX4_shortestWay 95 = .ok (.getfield 37, 3) := by decide +kernel
theorem dX4_shortestWay_98 : decode cX4_shortestWay 98 = .ok (.iload 7, 2) := by decide +kernel
theorem dX4_shortestWay_100 : decode cX4_shortestWay 100 = .ok (.aload_n 0, 1) := by decide +kernel
theorem dX4_shortestWay_101 : decode cX4_shortestWay 101 = .ok (.getfield 37, 3) := by decide +kernel
theorem dX4_shortestWay_104 : decode cX4_shortestWay 104 = .ok (.iload 5, 2) := by decide +kernel
theorem dX4_shortestWay_106 : decode cX4_shortestWay 106 = .ok (.iaload, 1) := by decide +kernel
theorem dX4_shortestWay_107 : decode cX4_shortestWay 107 = .ok (.iconst 1, 1) := by decide +kernel
theorem dX4_shortestWay_108 : decode cX4_shortestWay 108 = .ok (.iadd, 1) := by decide +kernel
theorem dX4_shortestWay_109 : decode cX4_shortestWay 109 = .ok (.iastore, 1) := by decide +kernel
theorem dX4_shortestWay_110 : decode cX4_shortestWay 110 = .ok (.aload_n 0, 1) := by decide +kernel
theorem dX4_shortestWay_111 : decode cX4_shortestWay 111 = .ok (.getfield 40, 3) := by decide +kernel
theorem dX4_shortestWay_114 : decode cX4_shortestWay 114 = .ok (.iload_n 3, 1) := by decide +kernel
theorem dX4_shortestWay_115 : decode cX4_shortestWay 115 = .ok (.iload 7, 2) := by decide +kernel
theorem dX4_shortestWay_117 : decode cX4_shortestWay 117 = .ok (.iastore, 1) := by decide +kernel
theorem dX4_shortestWay_118 : decode cX4_shortestWay 118 = .ok (.iinc 3 1, 3) := by decide +kernel
theorem dX4_shortestWay_121 : decode cX4_shortestWay 121 = .ok (.iinc 6 1, 3) := by decide +kernel
theorem dX4_shortestWay_124 : decode cX4_shortestWay 124 = .ok (.goto (-65), 3) := by decide +kernel
theorem dX4_shortestWay_127 : decode cX4_shortestWay 127 = .ok (.iinc 4 1, 3) := by decide +kernel
theorem dX4_shortestWay_130 : decode cX4_shortestWay 130 = .ok (.goto (-102), 3) := by decide +kernel
theorem dX4_shortestWay_133 : decode cX4_shortestWay 133 = .ok (.aload_n 0, 1) := by decide +kernel
theorem dX4_shortestWay_134 : decode cX4_shortestWay 134 = .ok (.getfield 37, 3) := by decide +kernel
theorem dX4_shortestWay_137 : decode cX4_shortestWay 137 = .ok (.iload_n 2, 1) := by decide +kernel
theorem dX4_shortestWay_138 : decode cX4_shortestWay 138 = .ok (.iaload, 1) := by decide +kernel
theorem dX4_shortestWay_139 : decode cX4_shortestWay 139 = .ok (.ireturn, 1) := by decide +kernel
theorem dX5_init_0 : decode cX5_init 0 = .ok (.aload_n 0, 1) := by decide +kernel
theorem dX5_init_1 : decode cX5_init 1 = .ok (.iload_n 1, 1) := by decide +kernel
theorem dX5_init_2 : decode cX5_init 2 = .ok (.iload_n 2, 1) := by decide +kernel
theorem dX5_init_3 : decode cX5_init 3 = .ok (.iload_n 3, 1) := by decide +kernel
theorem dX5_init_4 : decode cX5_init 4 = .ok (.invokespecial 3, 3) := by decide +kernel
theorem dX5_init_7 : decode cX5_init 7 = .ok (.return_, 1) := by decide +kernel
theorem dX5_toldValue_0 : decode cX5_toldValue 0 = .ok (.aload_n 0, 1) := by decide +kernel
theorem dX5_toldValue_1 : decode cX5_toldValue 1 = .ok (.invokespecial 9, 3) := by decide +kernel
theorem dX5_toldValue_4 : decode cX5_toldValue 4 = .ok (.iconst 1, 1) := by decide +kernel
theorem dX5_toldValue_5 : decode cX5_toldValue 5 = .ok (.iadd, 1) := by decide +kernel
theorem dX5_toldValue_6 : decode cX5_toldValue 6 = .ok (.ireturn, 1) := by decide +kernel
theorem dX5_linksCause_0 : decode cX5_linksCause 0 = .ok (.aload_n 0, 1) := by decide +kernel
theorem dX5_linksCause_1 : decode cX5_linksCause 1 = .ok (.getfield 13, 3) := by decide +kernel
theorem dX5_linksCause_4 : decode cX5_linksCause 4 = .ok (.iconst 0, 1) := by decide +kernel
theorem dX5_linksCause_5 : decode cX5_linksCause 5 = .ok (.bipush 6, 2) := by decide +kernel
theorem dX5_linksCause_7 : decode cX5_linksCause 7 = .ok (.invokestatic 19, 3) := by decide +kernel
theorem dX5_linksCause_10 : decode cX5_linksCause 10 = .ok (.bipush 6, 2) := by decide +kernel
theorem dX5_linksCause_12 : decode cX5_linksCause 12 = .ok (.if_icmp .ge 7, 3) := by decide +kernel
theorem dX5_linksCause_15 : decode cX5_linksCause 15 = .ok (.iconst 3, 1) := by decide +kernel
theorem dX5_linksCause_16 : decode cX5_linksCause 16 = .ok (.goto 4, 3) := by decide +kernel
theorem dX5_linksCause_19 : decode cX5_linksCause 19 = .ok (.iconst 0, 1) := by decide +kernel
theorem dX5_linksCause_20 : decode cX5_linksCause 20 = .ok (.ireturn, 1) := by decide +kernel
theorem dX6_init_0 : decode cX6_init 0 = .ok (.aload_n 0, 1) := by decide +kernel
theorem dX6_init_1 : decode cX6_init 1 = .ok (.iload_n 1, 1) := by decide +kernel
theorem dX6_init_2 : decode cX6_init 2 = .ok (.iload_n 2, 1) := by decide +kernel
theorem dX6_init_3 : decode cX6_init 3 = .ok (.iload_n 3, 1) := by decide +kernel
theorem dX6_init_4 : decode cX6_init 4 = .ok (.invokespecial 1, 3) := by decide +kernel
theorem dX6_init_7 : decode cX6_init 7 = .ok (.return_, 1) := by decide +kernel
theorem dX7_init_0 : decode cX7_init 0 = .ok (.aload_n 0, 1) := by decide +kernel
theorem dX7_init_1 : decode cX7_init 1 = .ok (.iload_n 1, 1) := by decide +kernel
theorem dX7_init_2 : decode cX7_init 2 = .ok (.iload_n 2, 1) := by decide +kernel
theorem dX7_init_3 : decode cX7_init 3 = .ok (.iload_n 3, 1) := by decide +kernel
theorem dX7_init_4 : decode cX7_init 4 = .ok (.invokespecial 3, 3) := by decide +kernel
theorem dX7_init_7 : decode cX7_init 7 = .ok (.return_, 1) := by decide +kernel
theorem dX7_linksCause_0 : decode cX7_linksCause 0 = .ok (.aload_n 0, 1) := by decide +kernel
theorem dX7_linksCause_1 : decode cX7_linksCause 1 = .ok (.getfield 9, 3) := by decide +kernel
theorem dX7_linksCause_4 : decode cX7_linksCause 4 = .ok (.instanceof 15, 3) := by decide +kernel
theorem dX7_linksCause_7 : decode cX7_linksCause 7 = .ok (.ifCond .eq 7, 3) := by decide +kernel
theorem dX7_linksCause_10 : decode cX7_linksCause 10 = .ok (.iconst 3, 1) := by decide +kernel
theorem dX7_linksCause_11 : decode cX7_linksCause 11 = .ok (.goto 4, 3) := by decide +kernel
theorem dX7_linksCause_14 : decode cX7_linksCause 14 = .ok (.iconst 0, 1) := by decide +kernel
theorem dX7_linksCause_15 : decode cX7_linksCause 15 = .ok (.ireturn, 1) := by decide +kernel
theorem dX7_linkCount_0 : decode cX7_linkCount 0 = .ok (.aload_n 0, 1) := by decide +kernel
theorem dX7_linkCount_1 : decode cX7_linkCount 1 = .ok (.getfield 9, 3) := by decide +kernel
theorem dX7_linkCount_4 : decode cX7_linkCount 4 = .ok (.ifnonnull 7, 3) := by decide +kernel
theorem dX7_linkCount_7 : decode cX7_linkCount 7 = .ok (.iconst 0, 1) := by decide +kernel
theorem dX7_linkCount_8 : decode cX7_linkCount 8 = .ok (.goto 4, 3) := by decide +kernel
theorem dX7_linkCount_11 : decode cX7_linkCount 11 = .ok (.iconst 1, 1) := by decide +kernel
theorem dX7_linkCount_12 : decode cX7_linkCount 12 = .ok (.ireturn, 1) := by decide +kernel
theorem dX7_link_0 : decode cX7_link 0 = .ok (.aload_n 0, 1) := by decide +kernel
theorem dX7_link_1 : decode cX7_link 1 = .ok (.getfield 9, 3) := by decide +kernel
theorem dX7_link_4 : decode cX7_link 4 = .ok (.areturn, 1) := by decide +kernel
theorem dX8_init_0 : decode cX8_init 0 = .ok (.aload_n 0, 1) := by decide +kernel
theorem dX8_init_1 : decode cX8_init 1 = .ok (.iload_n 1, 1) := by decide +kernel
theorem dX8_init_2 : decode cX8_init 2 = .ok (.iload_n 2, 1) := by decide +kernel
theorem dX8_init_3 : decode cX8_init 3 = .ok (.iload_n 3, 1) := by decide +kernel
theorem dX8_init_4 : decode cX8_init 4 = .ok (.invokespecial 3, 3) := by decide +kernel
theorem dX8_init_7 : decode cX8_init 7 = .ok (.return_, 1) := by decide +kernel
theorem dX8_toldValue_0 : decode cX8_toldValue 0 = .ok (.aload_n 0, 1) := by decide +kernel
theorem dX8_toldValue_1 : decode cX8_toldValue 1 = .ok (.getfield 9, 3) := by decide +kernel
theorem dX8_toldValue_4 : decode cX8_toldValue 4 = .ok (.ireturn, 1) := by decide +kernel
theorem dX8_linksCause_0 : decode cX8_linksCause 0 = .ok (.aload_n 0, 1) := by decide +kernel
theorem dX8_linksCause_1 : decode cX8_linksCause 1 = .ok (.getfield 9, 3) := by decide +kernel
theorem dX8_linksCause_4 : decode cX8_linksCause 4 = .ok (.invokestatic 15, 3) := by decide +kernel
theorem dX8_linksCause_7 : decode cX8_linksCause 7 = .ok (.ifCond .eq 7, 3) := by decide +kernel
theorem dX8_linksCause_10 : decode cX8_linksCause 10 = .ok (.iconst 0, 1) := by decide +kernel
theorem dX8_linksCause_11 : decode cX8_linksCause 11 = .ok (.goto 4, 3) := by decide +kernel
theorem dX8_linksCause_14 : decode cX8_linksCause 14 = .ok (.iconst 2, 1) := by decide +kernel
theorem dX8_linksCause_15 : decode cX8_linksCause 15 = .ok (.ireturn, 1) := by decide +kernel
theorem dX8_linkCount_0 : decode cX8_linkCount 0 = .ok (.iconst 1, 1) := by decide +kernel
theorem dX8_linkCount_1 : decode cX8_linkCount 1 = .ok (.ireturn, 1) := by decide +kernel
theorem dX8_link_0 : decode cX8_link 0 = .ok (.aload_n 0, 1) := by decide +kernel
theorem dX8_link_1 : decode cX8_link 1 = .ok (.aload_n 0, 1) := by decide +kernel
theorem dX8_link_2 : decode cX8_link 2 = .ok (.getfield 9, 3) := by decide +kernel
theorem dX8_link_5 : decode cX8_link 5 = .ok (.invokespecial 19, 3) := by decide +kernel
theorem dX8_link_8 : decode cX8_link 8 = .ok (.areturn, 1) := by decide +kernel
theorem dX9_init_0 : decode cX9_init 0 = .ok (.aload_n 0, 1) := by decide +kernel
theorem dX9_init_1 : decode cX9_init 1 = .ok (.invokespecial 3, 3) := by decide +kernel
theorem dX9_init_4 : decode cX9_init 4 = .ok (.aload_n 0, 1) := by decide +kernel
theorem dX9_init_5 : decode cX9_init 5 = .ok (.bipush 6, 2) := by decide +kernel
theorem dX9_init_7 : decode cX9_init 7 = .ok (.anewarray 9, 3) := by decide +kernel
theorem dX9_init_10 : decode cX9_init 10 = .ok (.putfield 11, 3) := by decide +kernel
theorem dX9_init_13 : decode cX9_init 13 = .ok (.aload_n 0, 1) := by decide +kernel
theorem dX9_init_14 : decode cX9_init 14 = .ok (.aconst_null, 1) := by decide +kernel
theorem dX9_init_15 : decode cX9_init 15 = .ok (.putfield 15, 3) := by decide +kernel
theorem dX9_init_18 : decode cX9_init 18 = .ok (.aload_n 0, 1) := by decide +kernel
theorem dX9_init_19 : decode cX9_init 19 = .ok (.iconst 0, 1) := by decide +kernel
theorem dX9_init_20 : decode cX9_init 20 = .ok (.putfield 19, 3) := by decide +kernel
theorem dX9_init_23 : decode cX9_init 23 = .ok (.aload_n 0, 1) := by decide +kernel
theorem dX9_init_24 : decode cX9_init 24 = .ok (.iconst 0, 1) := by decide +kernel
theorem dX9_init_25 : decode cX9_init 25 = .ok (.putfield 23, 3) := by decide +kernel
theorem dX9_init_28 : decode cX9_init 28 = .ok (.aload_n 0, 1) := by decide +kernel
theorem dX9_init_29 : decode cX9_init 29 = .ok (.iload_n 1, 1) := by decide +kernel
theorem dX9_init_30 : decode cX9_init 30 = .ok (.putfield 27, 3) := by decide +kernel
theorem dX9_init_33 : decode cX9_init 33 = .ok (.aload_n 0, 1) := by decide +kernel
theorem dX9_init_34 : decode cX9_init 34 = .ok (.iload_n 2, 1) := by decide +kernel
theorem dX9_init_35 : decode cX9_init 35 = .ok (.putfield 30, 3) := by decide +kernel
theorem dX9_init_38 : decode cX9_init 38 = .ok (.aload_n 0, 1) := by decide +kernel
theorem dX9_init_39 : decode cX9_init 39 = .ok (.iload_n 3, 1) := by decide +kernel
theorem dX9_init_40 : decode cX9_init 40 = .ok (.putfield 33, 3) := by decide +kernel
theorem dX9_init_43 : decode cX9_init 43 = .ok (.return_, 1) := by decide +kernel
theorem dX9_keyCause_0 : decode cX9_keyCause 0 = .ok (.iconst 0, 1) := by decide +kernel
theorem dX9_keyCause_1 : decode cX9_keyCause 1 = .ok (.ireturn, 1) := by decide +kernel
theorem dX9_toldKey_0 : decode cX9_toldKey 0 = .ok (.aload_n 0, 1) := by decide +kernel
theorem dX9_toldKey_1 : decode cX9_toldKey 1 = .ok (.getfield 30, 3) := by decide +kernel
theorem dX9_toldKey_4 : decode cX9_toldKey 4 = .ok (.ireturn, 1) := by decide +kernel
theorem dX9_valueCause_0 : decode cX9_valueCause 0 = .ok (.iconst 0, 1) := by decide +kernel
theorem dX9_valueCause_1 : decode cX9_valueCause 1 = .ok (.ireturn, 1) := by decide +kernel
theorem dX9_toldValue_0 : decode cX9_toldValue 0 = .ok (.aload_n 0, 1) := by decide +kernel
theorem dX9_toldValue_1 : decode cX9_toldValue 1 = .ok (.getfield 33, 3) := by decide +kernel
theorem dX9_toldValue_4 : decode cX9_toldValue 4 = .ok (.ireturn, 1) := by decide +kernel
theorem dX9_linksCause_0 : decode cX9_linksCause 0 = .ok (.iconst 0, 1) := by decide +kernel
theorem dX9_linksCause_1 : decode cX9_linksCause 1 = .ok (.ireturn, 1) := by decide +kernel
theorem dX10_init_0 : decode cX10_init 0 = .ok (.aload_n 0, 1) := by decide +kernel
theorem dX10_init_1 : decode cX10_init 1 = .ok (.invokespecial 3, 3) := by decide +kernel
theorem dX10_init_4 : decode cX10_init 4 = .ok (.aload_n 0, 1) := by decide +kernel
theorem dX10_init_5 : decode cX10_init 5 = .ok (.bipush 40, 2) := by decide +kernel
theorem dX10_init_7 : decode cX10_init 7 = .ok (.anewarray 9, 3) := by decide +kernel
theorem dX10_init_10 : decode cX10_init 10 = .ok (.putfield 11, 3) := by decide +kernel
theorem dX10_init_13 : decode cX10_init 13 = .ok (.aload_n 0, 1) := by decide +kernel
theorem dX10_init_14 : decode cX10_init 14 = .ok (.iconst 0, 1) := by decide +kernel
theorem dX10_init_15 : decode cX10_init 15 = .ok (.putfield 15, 3) := by decide +kernel
theorem dX10_init_18 : decode cX10_init 18 = .ok (.aload_n 0, 1) := by decide +kernel
theorem dX10_init_19 : decode cX10_init 19 = .ok (.new 19, 3) := by decide +kernel
theorem dX10_init_22 : decode cX10_init 22 = .ok (.dup, 1) := by decide +kernel
theorem dX10_init_23 : decode cX10_init 23 = .ok (.invokespecial 21, 3) := by decide +kernel
theorem dX10_init_26 : decode cX10_init 26 = .ok (.putfield 22, 3) := by decide +kernel
theorem dX10_init_29 : decode cX10_init 29 = .ok (.aload_n 0, 1) := by decide +kernel
theorem dX10_init_30 : decode cX10_init 30 = .ok (.new 19, 3) := by decide +kernel
theorem dX10_init_33 : decode cX10_init 33 = .ok (.dup, 1) := by decide +kernel
theorem dX10_init_34 : decode cX10_init 34 = .ok (.invokespecial 21, 3) := by decide +kernel
theorem dX10_init_37 : decode cX10_init 37 = .ok (.putfield 26, 3) := by decide +kernel
theorem dX10_init_40 : decode cX10_init 40 = .ok (.aload_n 0, 1) := by decide +kernel
theorem dX10_init_41 : decode cX10_init 41 = .ok (.ldc 29, 2) := by decide +kernel
theorem dX10_init_43 : decode cX10_init 43 = .ok (.putfield 30, 3) := by decide +kernel
theorem dX10_init_46 : decode cX10_init 46 = .ok (.aload_n 0, 1) := by decide +kernel
theorem dX10_init_47 : decode cX10_init 47 = .ok (.ldc 29, 2) := by decide +kernel
theorem dX10_init_49 : decode cX10_init 49 = .ok (.putfield 33, 3) := by decide +kernel
theorem dX10_init_52 : decode cX10_init 52 = .ok (.aload_n 0, 1) := by decide +kernel
theorem dX10_init_53 : decode cX10_init 53 = .ok (.iconst 0, 1) := by decide +kernel
theorem dX10_init_54 : decode cX10_init 54 = .ok (.putfield 36, 3) := by decide +kernel
theorem dX10_init_57 : decode cX10_init 57 = .ok (.aload_n 0, 1) := by decide +kernel
theorem dX10_init_58 : decode cX10_init 58 = .ok (.iconst 0, 1) := by decide +kernel
theorem dX10_init_59 : decode cX10_init 59 = .ok (.putfield 39, 3) := by decide +kernel
theorem dX10_init_62 : decode cX10_init 62 = .ok (.return_, 1) := by decide +kernel
theorem dX10_thing_0 : decode cX10_thing 0 = .ok (.iload_n 1, 1) := by decide +kernel
theorem dX10_thing_1 : decode cX10_thing 1 = .ok (.ifCond .lt 9, 3) := by decide +kernel
theorem dX10_thing_4 : decode cX10_thing 4 = .ok (.iload_n 1, 1) := by decide +kernel
theorem dX10_thing_5 : decode cX10_thing 5 = .ok (.bipush 6, 2) := by decide +kernel
theorem dX10_thing_7 : decode cX10_thing 7 = .ok (.if_icmp .le 6, 3) := by decide +kernel
theorem dX10_thing_10 : decode cX10_thing 10 = .ok (.ldc 42, 2) := by decide +kernel
theorem dX10_thing_12 : decode cX10_thing 12 = .ok (.ireturn, 1) := by decide +kernel
theorem dX10_thing_13 : decode cX10_thing 13 = .ok (.aload_n 0, 1) := by decide +kernel
theorem dX10_thing_14 : decode cX10_thing 14 = .ok (.getfield 15, 3) := by decide +kernel
theorem dX10_thing_17 : decode cX10_thing 17 = .ok (.bipush 40, 2) := by decide +kernel
theorem dX10_thing_19 : decode cX10_thing 19 = .ok (.if_icmp .lt 6, 3) := by decide +kernel
theorem dX10_thing_22 : decode cX10_thing 22 = .ok (.ldc 43, 2) := by decide +kernel
theorem dX10_thing_24 : decode cX10_thing 24 = .ok (.ireturn, 1) := by decide +kernel
theorem dX10_thing_25 : decode cX10_thing 25 = .ok (.aload_n 0, 1) := by decide +kernel
theorem dX10_thing_26 : decode cX10_thing 26 = .ok (.getfield 15, 3) := by decide +kernel
theorem dX10_thing_29 : decode cX10_thing 29 = .ok (.istore 4, 2) := by decide +kernel
theorem dX10_thing_31 : decode cX10_thing 31 = .ok (.aload_n 0, 1) := by decide +kernel
theorem dX10_thing_32 : decode cX10_thing 32 = .ok (.getfield 11, 3) := by decide +kernel
theorem dX10_thing_35 : decode cX10_thing 35 = .ok (.iload 4, 2) := by decide +kernel
theorem dX10_thing_37 : decode cX10_thing 37 = .ok (.iload_n 1, 1) := by decide +kernel
theorem dX10_thing_38 : decode cX10_thing 38 = .ok (.iload 4, 2) := by decide +kernel
theorem dX10_thing_40 : decode cX10_thing 40 = .ok (.iload_n 2, 1) := by decide +kernel
theorem dX10_thing_41 : decode cX10_thing 41 = .ok (.iload_n 3, 1) := by decide +kernel
theorem dX10_thing_42 : decode cX10_thing 42 = .ok (.invokestatic 44, 3) := by decide +kernel
theorem dX10_thing_45 : decode cX10_thing 45 = .ok (.aastore, 1) := by decide +kernel
theorem dX10_thing_46 : decode cX10_thing 46 = .ok (.aload_n 0, 1) := by decide +kernel
theorem dX10_thing_47 : decode cX10_thing 47 = .ok (.dup, 1) := by decide +kernel
theorem dX10_thing_48 : decode cX10_thing 48 = .ok (.getfield 15, 3) := by decide +kernel
theorem dX10_thing_51 : decode cX10_thing 51 = .ok (.iconst 1, 1) := by decide +kernel
theorem dX10_thing_52 : decode cX10_thing 52 = .ok (.iadd, 1) := by decide +kernel
theorem dX10_thing_53 : decode cX10_thing 53 = .ok (.putfield 15, 3) := by decide +kernel
theorem dX10_thing_56 : decode cX10_thing 56 = .ok (.iload 4, 2) := by decide +kernel
theorem dX10_thing_58 : decode cX10_thing 58 = .ok (.ireturn, 1) := by decide +kernel
theorem dX10_value_0 : decode cX10_value 0 = .ok (.aload_n 0, 1) := by decide +kernel
theorem dX10_value_1 : decode cX10_value 1 = .ok (.iload_n 1, 1) := by decide +kernel
theorem dX10_value_2 : decode cX10_value 2 = .ok (.invokevirtual 48, 3) := by decide +kernel
theorem dX10_value_5 : decode cX10_value 5 = .ok (.astore_n 3, 1) := by decide +kernel
theorem dX10_value_6 : decode cX10_value 6 = .ok (.aload_n 3, 1) := by decide +kernel
theorem dX10_value_7 : decode cX10_value 7 = .ok (.ifnonnull 6, 3) := by decide +kernel
theorem dX10_value_10 : decode cX10_value 10 = .ok (.ldc 52, 2) := by decide +kernel
theorem dX10_value_12 : decode cX10_value 12 = .ok (.ireturn, 1) := by decide +kernel
theorem dX10_value_13 : decode cX10_value 13 = .ok (.aload_n 3, 1) := by decide +kernel
theorem dX10_value_14 : decode cX10_value 14 = .ok (.getfield 53, 3) := by decide +kernel
theorem dX10_value_17 : decode cX10_value 17 = .ok (.istore 4, 2) := by decide +kernel
theorem dX10_value_19 : decode cX10_value 19 = .ok (.aload_n 3, 1) := by decide +kernel
theorem dX10_value_20 : decode cX10_value 20 = .ok (.iload_n 2, 1) := by decide +kernel
theorem dX10_value_21 : decode cX10_value 21 = .ok (.putfield 53, 3) := by decide +kernel
theorem dX10_value_24 : decode cX10_value 24 = .ok (.iload 4, 2) := by decide +kernel
theorem dX10_value_26 : decode cX10_value 26 = .ok (.ireturn, 1) := by decide +kernel
theorem dX10_key_0 : decode cX10_key 0 = .ok (.aload_n 0, 1) := by decide +kernel
theorem dX10_key_1 : decode cX10_key 1 = .ok (.iload_n 1, 1) := by decide +kernel
theorem dX10_key_2 : decode cX10_key 2 = .ok (.invokevirtual 48, 3) := by decide +kernel
theorem dX10_key_5 : decode cX10_key 5 = .ok (.astore_n 3, 1) := by decide +kernel
theorem dX10_key_6 : decode cX10_key 6 = .ok (.aload_n 3, 1) := by decide +kernel
theorem dX10_key_7 : decode cX10_key 7 = .ok (.ifnonnull 6, 3) := by decide +kernel
theorem dX10_key_10 : decode cX10_key 10 = .ok (.ldc 52, 2) := by decide +kernel
theorem dX10_key_12 : decode cX10_key 12 = .ok (.ireturn, 1) := by decide +kernel
theorem dX10_key_13 : decode cX10_key 13 = .ok (.aload_n 3, 1) := by decide +kernel
theorem dX10_key_14 : decode cX10_key 14 = .ok (.getfield 56, 3) := by decide +kernel
theorem dX10_key_17 : decode cX10_key 17 = .ok (.istore 4, 2) := by decide +kernel
theorem dX10_key_19 : decode cX10_key 19 = .ok (.aload_n 3, 1) := by decide +kernel
theorem dX10_key_20 : decode cX10_key 20 = .ok (.iload_n 2, 1) := by decide +kernel
theorem dX10_key_21 : decode cX10_key 21 = .ok (.putfield 56, 3) := by decide +kernel
theorem dX10_key_24 : decode cX10_key 24 = .ok (.iload 4, 2) := by decide +kernel
theorem dX10_key_26 : decode cX10_key 26 = .ok (.ireturn, 1) := by decide +kernel
theorem dX10_next_0 : decode cX10_next 0 = .ok (.aload_n 0, 1) := by decide +kernel
theorem dX10_next_1 : decode cX10_next 1 = .ok (.iload_n 1, 1) := by decide +kernel
theorem dX10_next_2 : decode cX10_next 2 = .ok (.invokevirtual 48, 3) := by decide +kernel
theorem dX10_next_5 : decode cX10_next 5 = .ok (.astore_n 3, 1) := by decide +kernel
theorem dX10_next_6 : decode cX10_next 6 = .ok (.aload_n 3, 1) := by decide +kernel
theorem dX10_next_7 : decode cX10_next 7 = .ok (.ifnull 11, 3) := by decide +kernel
theorem dX10_next_10 : decode cX10_next 10 = .ok (.aload_n 0, 1) := by decide +kernel
theorem dX10_next_11 : decode cX10_next 11 = .ok (.iload_n 2, 1) := by decide +kernel
theorem dX10_next_12 : decode cX10_next 12 = .ok (.invokevirtual 59, 3) := by decide +kernel
theorem dX10_next_15 : decode cX10_next 15 = .ok (.ifCond .ne 6, 3) := by decide +kernel
theorem dX10_next_18 : decode cX10_next 18 = .ok (.ldc 52, 2) := by decide +kernel
theorem dX10_next_20 : decode cX10_next 20 = .ok (.ireturn, 1) := by decide +kernel
theorem dX10_next_21 : decode cX10_next 21 = .ok (.aload_n 3, 1) := by decide +kernel
theorem dX10_next_22 : decode cX10_next 22 = .ok (.aload_n 0, 1) := by decide +kernel
theorem dX10_next_23 : decode cX10_next 23 = .ok (.iload_n 2, 1) := by decide +kernel
theorem dX10_next_24 : decode cX10_next 24 = .ok (.invokevirtual 48, 3) := by decide +kernel
theorem dX10_next_27 : decode cX10_next 27 = .ok (.putfield 63, 3) := by decide +kernel
theorem dX10_next_30 : decode cX10_next 30 = .ok (.iconst 1, 1) := by decide +kernel
theorem dX10_next_31 : decode cX10_next 31 = .ok (.ireturn, 1) := by decide +kernel
theorem dX10_place_0 : decode cX10_place 0 = .ok (.aload_n 0, 1) := by decide +kernel
theorem dX10_place_1 : decode cX10_place 1 = .ok (.iload_n 1, 1) := by decide +kernel
theorem dX10_place_2 : decode cX10_place 2 = .ok (.invokevirtual 48, 3) := by decide +kernel
theorem dX10_place_5 : decode cX10_place 5 = .ok (.astore 4, 2) := by decide +kernel
theorem dX10_place_7 : decode cX10_place 7 = .ok (.aload 4, 2) := by decide +kernel
theorem dX10_place_9 : decode cX10_place 9 = .ok (.ifnull 11, 3) := by decide +kernel
theorem dX10_place_12 : decode cX10_place 12 = .ok (.aload_n 0, 1) := by decide +kernel
theorem dX10_place_13 : decode cX10_place 13 = .ok (.iload_n 3, 1) := by decide +kernel
theorem dX10_place_14 : decode cX10_place 14 = .ok (.invokevirtual 59, 3) := by decide +kernel
theorem dX10_place_17 : decode cX10_place 17 = .ok (.ifCond .ne 6, 3) := by decide +kernel
theorem dX10_place_20 : decode cX10_place 20 = .ok (.ldc 52, 2) := by decide +kernel
theorem dX10_place_22 : decode cX10_place 22 = .ok (.ireturn, 1) := by decide +kernel
theorem dX10_place_23 : decode cX10_place 23 = .ok (.iload_n 2, 1) := by decide +kernel
theorem dX10_place_24 : decode cX10_place 24 = .ok (.invokestatic 67, 3) := by decide +kernel
theorem dX10_place_27 : decode cX10_place 27 = .ok (.ifCond .ne 6, 3) := by decide +kernel
theorem dX10_place_30 : decode cX10_place 30 = .ok (.ldc 42, 2) := by decide +kernel
theorem dX10_place_32 : decode cX10_place 32 = .ok (.ireturn, 1) := by decide +kernel
theorem dX10_place_33 : decode cX10_place 33 = .ok (.aload 4, 2) := by decide +kernel
theorem dX10_place_35 : decode cX10_place 35 = .ok (.getfield 70, 3) := by decide +kernel
theorem dX10_place_38 : decode cX10_place 38 = .ok (.iload_n 2, 1) := by decide +kernel
theorem dX10_place_39 : decode cX10_place 39 = .ok (.aload_n 0, 1) := by decide +kernel
theorem dX10_place_40 : decode cX10_place 40 = .ok (.iload_n 3, 1) := by decide +kernel
theorem dX10_place_41 : decode cX10_place 41 = .ok (.invokevirtual 48, 3) := by decide +kernel
theorem dX10_place_44 : decode cX10_place 44 = .ok (.aastore, 1) := by decide +kernel
theorem dX10_place_45 : decode cX10_place 45 = .ok (.iconst 1, 1) := by decide +kernel
theorem dX10_place_46 : decode cX10_place 46 = .ok (.ireturn, 1) := by decide +kernel
theorem dX10_hold_0 : decode cX10_hold 0 = .ok (.aload_n 0, 1) := by decide +kernel
theorem dX10_hold_1 : decode cX10_hold 1 = .ok (.iload_n 1, 1) := by decide +kernel
theorem dX10_hold_2 : decode cX10_hold 2 = .ok (.invokevirtual 48, 3) := by decide +kernel
theorem dX10_hold_5 : decode cX10_hold 5 = .ok (.astore_n 3, 1) := by decide +kernel
theorem dX10_hold_6 : decode cX10_hold 6 = .ok (.aload_n 3, 1) := by decide +kernel
theorem dX10_hold_7 : decode cX10_hold 7 = .ok (.ifnonnull 6, 3) := by decide +kernel
theorem dX10_hold_10 : decode cX10_hold 10 = .ok (.ldc 52, 2) := by decide +kernel
theorem dX10_hold_12 : decode cX10_hold 12 = .ok (.ireturn, 1) := by decide +kernel
theorem dX10_hold_13 : decode cX10_hold 13 = .ok (.aload_n 3, 1) := by decide +kernel
theorem dX10_hold_14 : decode cX10_hold 14 = .ok (.getfield 73, 3) := by decide +kernel
theorem dX10_hold_17 : decode cX10_hold 17 = .ok (.istore 4, 2) := by decide +kernel
theorem dX10_hold_19 : decode cX10_hold 19 = .ok (.aload_n 3, 1) := by decide +kernel
theorem dX10_hold_20 : decode cX10_hold 20 = .ok (.iload_n 2, 1) := by decide +kernel
theorem dX10_hold_21 : decode cX10_hold 21 = .ok (.putfield 73, 3) := by decide +kernel
theorem dX10_hold_24 : decode cX10_hold 24 = .ok (.iload 4, 2) := by decide +kernel
theorem dX10_hold_26 : decode cX10_hold 26 = .ok (.invokestatic 77, 3) := by decide +kernel
theorem dX10_hold_29 : decode cX10_hold 29 = .ok (.ireturn, 1) := by decide +kernel
theorem dX10_copy_0 : decode cX10_copy 0 = .ok (.aload_n 0, 1) := by decide +kernel
theorem dX10_copy_1 : decode cX10_copy 1 = .ok (.iload_n 1, 1) := by decide +kernel
theorem dX10_copy_2 : decode cX10_copy 2 = .ok (.invokevirtual 48, 3) := by decide +kernel
theorem dX10_copy_5 : decode cX10_copy 5 = .ok (.astore 6, 2) := by decide +kernel
theorem dX10_copy_7 : decode cX10_copy 7 = .ok (.aload_n 0, 1) := by decide +kernel
theorem dX10_copy_8 : decode cX10_copy 8 = .ok (.iload_n 3, 1) := by decide +kernel
theorem dX10_copy_9 : decode cX10_copy 9 = .ok (.invokevirtual 48, 3) := by decide +kernel
theorem dX10_copy_12 : decode cX10_copy 12 = .ok (.astore 7, 2) := by decide +kernel
theorem dX10_copy_14 : decode cX10_copy 14 = .ok (.aload 6, 2) := by decide +kernel
theorem dX10_copy_16 : decode cX10_copy 16 = .ok (.ifnull 8, 3) := by decide +kernel
theorem dX10_copy_19 : decode cX10_copy 19 = .ok (.aload 7, 2) := by decide +kernel
theorem dX10_copy_21 : decode cX10_copy 21 = .ok (.ifnonnull 6, 3) := by decide +kernel
theorem dX10_copy_24 : decode cX10_copy 24 = .ok (.ldc 52, 2) := by decide +kernel
theorem dX10_copy_26 : decode cX10_copy 26 = .ok (.ireturn, 1) := by decide +kernel
theorem dX10_copy_27 : decode cX10_copy 27 = .ok (.iload_n 2, 1) := by decide +kernel
theorem dX10_copy_28 : decode cX10_copy 28 = .ok (.iload 5, 2) := by decide +kernel
theorem dX10_copy_30 : decode cX10_copy 30 = .ok (.invokestatic 81, 3) := by decide +kernel
theorem dX10_copy_33 : decode cX10_copy 33 = .ok (.ifCond .eq 13, 3) := by decide +kernel
theorem dX10_copy_36 : decode cX10_copy 36 = .ok (.iload 4, 2) := by decide +kernel
theorem dX10_copy_38 : decode cX10_copy 38 = .ok (.iload 5, 2) := by decide +kernel
theorem dX10_copy_40 : decode cX10_copy 40 = .ok (.invokestatic 81, 3) := by decide +kernel
theorem dX10_copy_43 : decode cX10_copy 43 = .ok (.ifCond .ne 6, 3) := by decide +kernel
theorem dX10_copy_46 : decode cX10_copy 46 = .ok (.ldc 85, 2) := by decide +kernel
theorem dX10_copy_48 : decode cX10_copy 48 = .ok (.ireturn, 1) := by decide +kernel
theorem dX10_copy_49 : decode cX10_copy 49 = .ok (.aload 7, 2) := by decide +kernel
theorem dX10_copy_51 : decode cX10_copy 51 = .ok (.instanceof 86, 3) := by decide +kernel
theorem dX10_copy_54 : decode cX10_copy 54 = .ok (.ifCond .eq 17, 3) := by decide +kernel
theorem dX10_copy_57 : decode cX10_copy 57 = .ok (.aload 6, 2) := by decide +kernel
theorem dX10_copy_59 : decode cX10_copy 59 = .ok (.getfield 70, 3) := by decide +kernel
theorem dX10_copy_62 : decode cX10_copy 62 = .ok (.iload_n 2, 1) := by decide +kernel
theorem dX10_copy_63 : decode cX10_copy 63 = .ok (.iload 5, 2) := by decide +kernel
theorem dX10_copy_65 : decode cX10_copy 65 = .ok (.invokestatic 88, 3) := by decide +kernel
theorem dX10_copy_68 : decode cX10_copy 68 = .ok (.goto 5, 3) := by decide +kernel
theorem dX10_copy_71 : decode cX10_copy 71 = .ok (.iload 5, 2) := by decide +kernel
theorem dX10_copy_73 : decode cX10_copy 73 = .ok (.istore 8, 2) := by decide +kernel
theorem dX10_copy_75 : decode cX10_copy 75 = .ok (.aload 6, 2) := by decide +kernel
theorem dX10_copy_77 : decode cX10_copy 77 = .ok (.getfield 70, 3) := by decide +kernel
theorem dX10_copy_80 : decode cX10_copy 80 = .ok (.iload_n 2, 1) := by decide +kernel
theorem dX10_copy_81 : decode cX10_copy 81 = .ok (.aload 7, 2) := by decide +kernel
theorem dX10_copy_83 : decode cX10_copy 83 = .ok (.getfield 70, 3) := by decide +kernel
theorem dX10_copy_86 : decode cX10_copy 86 = .ok (.iload 4, 2) := by decide +kernel
theorem dX10_copy_88 : decode cX10_copy 88 = .ok (.iload 8, 2) := by decide +kernel
theorem dX10_copy_90 : decode cX10_copy 90 = .ok (.invokestatic 92, 3) := by decide +kernel
theorem dX10_copy_93 : decode cX10_copy 93 = .ok (.iload 8, 2) := by decide +kernel
theorem dX10_copy_95 : decode cX10_copy 95 = .ok (.iload 5, 2) := by decide +kernel
theorem dX10_copy_97 : decode cX10_copy 97 = .ok (.if_icmp .ge 8, 3) := by decide +kernel
theorem dX10_copy_100 : decode cX10_copy 100 = .ok (.ldc 96, 2) := by decide +kernel
theorem dX10_copy_102 : decode cX10_copy 102 = .ok (.goto 4, 3) := by decide +kernel
theorem dX10_copy_105 : decode cX10_copy 105 = .ok (.iconst 1, 1) := by decide +kernel
theorem dX10_copy_106 : decode cX10_copy 106 = .ok (.ireturn, 1) := by decide +kernel
theorem dX10_load_0 : decode cX10_load 0 = .ok (.aload_n 0, 1) := by decide +kernel
theorem dX10_load_1 : decode cX10_load 1 = .ok (.iload_n 1, 1) := by decide +kernel
theorem dX10_load_2 : decode cX10_load 2 = .ok (.invokevirtual 48, 3) := by decide +kernel
theorem dX10_load_5 : decode cX10_load 5 = .ok (.astore_n 3, 1) := by decide +kernel
theorem dX10_load_6 : decode cX10_load 6 = .ok (.aload_n 3, 1) := by decide +kernel
theorem dX10_load_7 : decode cX10_load 7 = .ok (.ifnonnull 6, 3) := by decide +kernel
theorem dX10_load_10 : decode cX10_load 10 = .ok (.ldc 52, 2) := by decide +kernel
theorem dX10_load_12 : decode cX10_load 12 = .ok (.ireturn, 1) := by decide +kernel
theorem dX10_load_13 : decode cX10_load 13 = .ok (.aload_n 3, 1) := by decide +kernel
theorem dX10_load_14 : decode cX10_load 14 = .ok (.instanceof 97, 3) := by decide +kernel
theorem dX10_load_17 : decode cX10_load 17 = .ok (.ifCond .eq 12, 3) := by decide +kernel
theorem dX10_load_20 : decode cX10_load 20 = .ok (.aload_n 3, 1) := by decide +kernel
theorem dX10_load_21 : decode cX10_load 21 = .ok (.checkcast 97, 3) := by decide +kernel
theorem dX10_load_24 : decode cX10_load 24 = .ok (.astore 4, 2) := by decide +kernel
theorem dX10_load_26 : decode cX10_load 26 = .ok (.goto 6, 3) := by decide +kernel
theorem dX10_load_29 : decode cX10_load 29 = .ok (.ldc 99, 2) := by decide +kernel
theorem dX10_load_31 : decode cX10_load 31 = .ok (.ireturn, 1) := by decide +kernel
theorem dX10_load_32 : decode cX10_load 32 = .ok (.aload_n 0, 1) := by decide +kernel
theorem dX10_load_33 : decode cX10_load 33 = .ok (.ldc 29, 2) := by decide +kernel
theorem dX10_load_35 : decode cX10_load 35 = .ok (.ldc 29, 2) := by decide +kernel
theorem dX10_load_37 : decode cX10_load 37 = .ok (.iconst 0, 1) := by decide +kernel
theorem dX10_load_38 : decode cX10_load 38 = .ok (.invokevirtual 100, 3) := by decide +kernel
theorem dX10_load_41 : decode cX10_load 41 = .ok (.aload_n 0, 1) := by decide +kernel
theorem dX10_load_42 : decode cX10_load 42 = .ok (.aload 4, 2) := by decide +kernel
theorem dX10_load_44 : decode cX10_load 44 = .ok (.iload_n 2, 1) := by decide +kernel
theorem dX10_load_45 : decode cX10_load 45 = .ok (.invokevirtual 104, 3) := by decide +kernel
theorem dX10_load_48 : decode cX10_load 48 = .ok (.ifCond .ne 21, 3) := by decide +kernel
theorem dX10_load_51 : decode cX10_load 51 = .ok (.aload_n 0, 1) := by decide +kernel
theorem dX10_load_52 : decode cX10_load 52 = .ok (.dup, 1) := by decide +kernel
theorem dX10_load_53 : decode cX10_load 53 = .ok (.getfield 39, 3) := by decide +kernel
theorem dX10_load_56 : decode cX10_load 56 = .ok (.iconst 1, 1) := by decide +kernel
theorem dX10_load_57 : decode cX10_load 57 = .ok (.iadd, 1) := by decide +kernel
theorem dX10_load_58 : decode cX10_load 58 = .ok (.putfield 39, 3) := by decide +kernel
theorem dX10_load_61 : decode cX10_load 61 = .ok (.ldc 108, 2) := by decide +kernel
theorem dX10_load_63 : decode cX10_load 63 = .ok (.aload_n 0, 1) := by decide +kernel
theorem dX10_load_64 : decode cX10_load 64 = .ok (.getfield 36, 3) := by decide +kernel
theorem dX10_load_67 : decode cX10_load 67 = .ok (.isub, 1) := by decide +kernel
theorem dX10_load_68 : decode cX10_load 68 = .ok (.ireturn, 1) := by decide +kernel
theorem dX10_load_69 : decode cX10_load 69 = .ok (.aload_n 0, 1) := by decide +kernel
theorem dX10_load_70 : decode cX10_load 70 = .ok (.getfield 22, 3) := by decide +kernel
theorem dX10_load_73 : decode cX10_load 73 = .ok (.astore 5, 2) := by decide +kernel
theorem dX10_load_75 : decode cX10_load 75 = .ok (.aload_n 0, 1) := by decide +kernel
theorem dX10_load_76 : decode cX10_load 76 = .ok (.aload_n 0, 1) := by decide +kernel
theorem dX10_load_77 : decode cX10_load 77 = .ok (.getfield 26, 3) := by decide +kernel
theorem dX10_load_80 : decode cX10_load 80 = .ok (.putfield 22, 3) := by decide +kernel
theorem dX10_load_83 : decode cX10_load 83 = .ok (.aload_n 0, 1) := by decide +kernel
theorem dX10_load_84 : decode cX10_load 84 = .ok (.aload 5, 2) := by decide +kernel
theorem dX10_load_86 : decode cX10_load 86 = .ok (.putfield 26, 3) := by decide +kernel
theorem dX10_load_89 : decode cX10_load 89 = .ok (.aload_n 0, 1) := by decide +kernel
theorem dX10_load_90 : decode cX10_load 90 = .ok (.getfield 22, 3) := by decide +kernel
theorem dX10_load_93 : decode cX10_load 93 = .ok (.getfield 109, 3) := by decide +kernel
theorem dX10_load_96 : decode cX10_load 96 = .ok (.ireturn, 1) := by decide +kernel
theorem dX10_refused_0 : decode cX10_refused 0 = .ok (.iload_n 1, 1) := by decide +kernel
theorem dX10_refused_1 : decode cX10_refused 1 = .ok (.ifCond .lt 8, 3) := by decide +kernel
theorem dX10_refused_4 : decode cX10_refused 4 = .ok (.iload_n 1, 1) := by decide +kernel
theorem dX10_refused_5 : decode cX10_refused 5 = .ok (.iconst 2, 1) := by decide +kernel
theorem dX10_refused_6 : decode cX10_refused 6 = .ok (.if_icmp .le 6, 3) := by decide +kernel
theorem dX10_refused_9 : decode cX10_refused 9 = .ok (.ldc 42, 2) := by decide +kernel
theorem dX10_refused_11 : decode cX10_refused 11 = .ok (.ireturn, 1) := by decide +kernel
theorem dX10_refused_12 : decode cX10_refused 12 = .ok (.aload_n 0, 1) := by decide +kernel
theorem dX10_refused_13 : decode cX10_refused 13 = .ok (.getfield 36, 3) := by decide +kernel
theorem dX10_refused_16 : decode cX10_refused 16 = .ok (.ifCond .ne 6, 3) := by decide +kernel
theorem dX10_refused_19 : decode cX10_refused 19 = .ok (.ldc 29, 2) := by decide +kernel
theorem dX10_refused_21 : decode cX10_refused 21 = .ok (.ireturn, 1) := by decide +kernel
theorem dX10_refused_22 : decode cX10_refused 22 = .ok (.iload_n 1, 1) := by decide +kernel
theorem dX10_refused_23 : decode cX10_refused 23 = .ok (.lookupswitch 35 #[(0, 25), (1, 30)], 25) := by decide +kernel
theorem dX10_refused_48 : decode cX10_refused 48 = .ok (.aload_n 0, 1) := by decide +kernel
theorem dX10_refused_49 : decode cX10_refused 49 = .ok (.getfield 30, 3) := by decide +kernel
theorem dX10_refused_52 : decode cX10_refused 52 = .ok (.ireturn, 1) := by decide +kernel
theorem dX10_refused_53 : decode cX10_refused 53 = .ok (.aload_n 0, 1) := by decide +kernel
theorem dX10_refused_54 : decode cX10_refused 54 = .ok (.getfield 33, 3) := by decide +kernel
theorem dX10_refused_57 : decode cX10_refused 57 = .ok (.ireturn, 1) := by decide +kernel
theorem dX10_refused_58 : decode cX10_refused 58 = .ok (.aload_n 0, 1) := by decide +kernel
theorem dX10_refused_59 : decode cX10_refused 59 = .ok (.getfield 36, 3) := by decide +kernel
theorem dX10_refused_62 : decode cX10_refused 62 = .ok (.ireturn, 1) := by decide +kernel
theorem dX10_node_0 : decode cX10_node 0 = .ok (.aload_n 0, 1) := by decide +kernel
theorem dX10_node_1 : decode cX10_node 1 = .ok (.iload_n 1, 1) := by decide +kernel
theorem dX10_node_2 : decode cX10_node 2 = .ok (.invokevirtual 112, 3) := by decide +kernel
theorem dX10_node_5 : decode cX10_node 5 = .ok (.ifCond .eq 15, 3) := by decide +kernel
theorem dX10_node_8 : decode cX10_node 8 = .ok (.aload_n 0, 1) := by decide +kernel
theorem dX10_node_9 : decode cX10_node 9 = .ok (.getfield 22, 3) := by decide +kernel
theorem dX10_node_12 : decode cX10_node 12 = .ok (.getfield 115, 3) := by decide +kernel
theorem dX10_node_15 : decode cX10_node 15 = .ok (.iload_n 1, 1) := by decide +kernel
theorem dX10_node_16 : decode cX10_node 16 = .ok (.iaload, 1) := by decide +kernel
theorem dX10_node_17 : decode cX10_node 17 = .ok (.goto 5, 3) := by decide +kernel
theorem dX10_node_20 : decode cX10_node 20 = .ok (.ldc 52, 2) := by decide +kernel
theorem dX10_node_22 : decode cX10_node 22 = .ok (.ireturn, 1) := by decide +kernel
theorem dX10_of_0 : decode cX10_of 0 = .ok (.aload_n 0, 1) := by decide +kernel
theorem dX10_of_1 : decode cX10_of 1 = .ok (.getfield 22, 3) := by decide +kernel
theorem dX10_of_4 : decode cX10_of 4 = .ok (.iload_n 1, 1) := by decide +kernel
theorem dX10_of_5 : decode cX10_of 5 = .ok (.invokevirtual 119, 3) := by decide +kernel
theorem dX10_of_8 : decode cX10_of 8 = .ok (.ifCond .eq 18, 3) := by decide +kernel
theorem dX10_of_11 : decode cX10_of 11 = .ok (.aload_n 0, 1) := by decide +kernel
theorem dX10_of_12 : decode cX10_of 12 = .ok (.getfield 22, 3) := by decide +kernel
theorem dX10_of_15 : decode cX10_of 15 = .ok (.getfield 122, 3) := by decide +kernel
theorem dX10_of_18 : decode cX10_of 18 = .ok (.iload_n 1, 1) := by decide +kernel
theorem dX10_of_19 : decode cX10_of 19 = .ok (.aaload, 1) := by decide +kernel
theorem dX10_of_20 : decode cX10_of 20 = .ok (.getfield 126, 3) := by decide +kernel
theorem dX10_of_23 : decode cX10_of 23 = .ok (.goto 5, 3) := by decide +kernel
theorem dX10_of_26 : decode cX10_of 26 = .ok (.ldc 52, 2) := by decide +kernel
theorem dX10_of_28 : decode cX10_of 28 = .ok (.ireturn, 1) := by decide +kernel
theorem dX10_column_0 : decode cX10_column 0 = .ok (.aload_n 0, 1) := by decide +kernel
theorem dX10_column_1 : decode cX10_column 1 = .ok (.getfield 22, 3) := by decide +kernel
theorem dX10_column_4 : decode cX10_column 4 = .ok (.iload_n 1, 1) := by decide +kernel
theorem dX10_column_5 : decode cX10_column 5 = .ok (.invokevirtual 119, 3) := by decide +kernel
theorem dX10_column_8 : decode cX10_column 8 = .ok (.ifCond .eq 15, 3) := by decide +kernel
theorem dX10_column_11 : decode cX10_column 11 = .ok (.aload_n 0, 1) := by decide +kernel
theorem dX10_column_12 : decode cX10_column 12 = .ok (.getfield 22, 3) := by decide +kernel
theorem dX10_column_15 : decode cX10_column 15 = .ok (.getfield 129, 3) := by decide +kernel
theorem dX10_column_18 : decode cX10_column 18 = .ok (.iload_n 1, 1) := by decide +kernel
theorem dX10_column_19 : decode cX10_column 19 = .ok (.iaload, 1) := by decide +kernel
theorem dX10_column_20 : decode cX10_column 20 = .ok (.goto 5, 3) := by decide +kernel
theorem dX10_column_23 : decode cX10_column 23 = .ok (.ldc 52, 2) := by decide +kernel
theorem dX10_column_25 : decode cX10_column 25 = .ok (.ireturn, 1) := by decide +kernel
theorem dX10_arcs_0 : decode cX10_arcs 0 = .ok (.aload_n 0, 1) := by decide +kernel
theorem dX10_arcs_1 : decode cX10_arcs 1 = .ok (.getfield 22, 3) := by decide +kernel
theorem dX10_arcs_4 : decode cX10_arcs 4 = .ok (.iload_n 1, 1) := by decide +kernel
theorem dX10_arcs_5 : decode cX10_arcs 5 = .ok (.invokevirtual 119, 3) := by decide +kernel
theorem dX10_arcs_8 : decode cX10_arcs 8 = .ok (.ifCond .eq 14, 3) := by decide +kernel
theorem dX10_arcs_11 : decode cX10_arcs 11 = .ok (.aload_n 0, 1) := by decide +kernel
theorem dX10_arcs_12 : decode cX10_arcs 12 = .ok (.getfield 22, 3) := by decide +kernel
theorem dX10_arcs_15 : decode cX10_arcs 15 = .ok (.iload_n 1, 1) := by decide +kernel
theorem dX10_arcs_16 : decode cX10_arcs 16 = .ok (.invokevirtual 132, 3) := by decide +kernel
theorem dX10_arcs_19 : decode cX10_arcs 19 = .ok (.goto 5, 3) := by decide +kernel
theorem dX10_arcs_22 : decode cX10_arcs 22 = .ok (.ldc 52, 2) := by decide +kernel
theorem dX10_arcs_24 : decode cX10_arcs 24 = .ok (.ireturn, 1) := by decide +kernel
theorem dX10_arc_0 : decode cX10_arc 0 = .ok (.aload_n 0, 1) := by decide +kernel
theorem dX10_arc_1 : decode cX10_arc 1 = .ok (.getfield 22, 3) := by decide +kernel
theorem dX10_arc_4 : decode cX10_arc 4 = .ok (.iload_n 1, 1) := by decide +kernel
theorem dX10_arc_5 : decode cX10_arc 5 = .ok (.invokevirtual 119, 3) := by decide +kernel
theorem dX10_arc_8 : decode cX10_arc 8 = .ok (.ifCond .eq 19, 3) := by decide +kernel
theorem dX10_arc_11 : decode cX10_arc 11 = .ok (.iload_n 2, 1) := by decide +kernel
theorem dX10_arc_12 : decode cX10_arc 12 = .ok (.ifCond .lt 15, 3) := by decide +kernel
theorem dX10_arc_15 : decode cX10_arc 15 = .ok (.iload_n 2, 1) := by decide +kernel
theorem dX10_arc_16 : decode cX10_arc 16 = .ok (.aload_n 0, 1) := by decide +kernel
theorem dX10_arc_17 : decode cX10_arc 17 = .ok (.getfield 22, 3) := by decide +kernel
theorem dX10_arc_20 : decode cX10_arc 20 = .ok (.iload_n 1, 1) := by decide +kernel
theorem dX10_arc_21 : decode cX10_arc 21 = .ok (.invokevirtual 132, 3) := by decide +kernel
theorem dX10_arc_24 : decode cX10_arc 24 = .ok (.if_icmp .lt 6, 3) := by decide +kernel
theorem dX10_arc_27 : decode cX10_arc 27 = .ok (.ldc 52, 2) := by decide +kernel
theorem dX10_arc_29 : decode cX10_arc 29 = .ok (.ireturn, 1) := by decide +kernel
theorem dX10_arc_30 : decode cX10_arc 30 = .ok (.aload_n 0, 1) := by decide +kernel
theorem dX10_arc_31 : decode cX10_arc 31 = .ok (.getfield 22, 3) := by decide +kernel
theorem dX10_arc_34 : decode cX10_arc 34 = .ok (.getfield 136, 3) := by decide +kernel
theorem dX10_arc_37 : decode cX10_arc 37 = .ok (.iload_n 1, 1) := by decide +kernel
theorem dX10_arc_38 : decode cX10_arc 38 = .ok (.iaload, 1) := by decide +kernel
theorem dX10_arc_39 : decode cX10_arc 39 = .ok (.iload_n 2, 1) := by decide +kernel
theorem dX10_arc_40 : decode cX10_arc 40 = .ok (.iadd, 1) := by decide +kernel
theorem dX10_arc_41 : decode cX10_arc 41 = .ok (.istore 4, 2) := by decide +kernel
theorem dX10_arc_43 : decode cX10_arc 43 = .ok (.iload_n 3, 1) := by decide +kernel
theorem dX10_arc_44 : decode cX10_arc 44 = .ok (.tableswitch 64 0 2 #[28, 39, 50], 28) := by decide +kernel
theorem dX10_arc_72 : decode cX10_arc 72 = .ok (.aload_n 0, 1) := by decide +kernel
theorem dX10_arc_73 : decode cX10_arc 73 = .ok (.getfield 22, 3) := by decide +kernel
theorem dX10_arc_76 : decode cX10_arc 76 = .ok (.getfield 139, 3) := by decide +kernel
theorem dX10_arc_79 : decode cX10_arc 79 = .ok (.iload 4, 2) := by decide +kernel
theorem dX10_arc_81 : decode cX10_arc 81 = .ok (.iaload, 1) := by decide +kernel
theorem dX10_arc_82 : decode cX10_arc 82 = .ok (.ireturn, 1) := by decide +kernel
theorem dX10_arc_83 : decode cX10_arc 83 = .ok (.aload_n 0, 1) := by decide +kernel
theorem dX10_arc_84 : decode cX10_arc 84 = .ok (.getfield 22, 3) := by decide +kernel
theorem dX10_arc_87 : decode cX10_arc 87 = .ok (.getfield 142, 3) := by decide +kernel
theorem dX10_arc_90 : decode cX10_arc 90 = .ok (.iload 4, 2) := by decide +kernel
theorem dX10_arc_92 : decode cX10_arc 92 = .ok (.iaload, 1) := by decide +kernel
theorem dX10_arc_93 : decode cX10_arc 93 = .ok (.ireturn, 1) := by decide +kernel
theorem dX10_arc_94 : decode cX10_arc 94 = .ok (.aload_n 0, 1) := by decide +kernel
theorem dX10_arc_95 : decode cX10_arc 95 = .ok (.getfield 22, 3) := by decide +kernel
theorem dX10_arc_98 : decode cX10_arc 98 = .ok (.getfield 145, 3) := by decide +kernel
theorem dX10_arc_101 : decode cX10_arc 101 = .ok (.iload 4, 2) := by decide +kernel
theorem dX10_arc_103 : decode cX10_arc 103 = .ok (.baload, 1) := by decide +kernel
theorem dX10_arc_104 : decode cX10_arc 104 = .ok (.invokestatic 77, 3) := by decide +kernel
theorem dX10_arc_107 : decode cX10_arc 107 = .ok (.ireturn, 1) := by decide +kernel
theorem dX10_arc_108 : decode cX10_arc 108 = .ok (.ldc 42, 2) := by decide +kernel
theorem dX10_arc_110 : decode cX10_arc 110 = .ok (.ireturn, 1) := by decide +kernel
theorem dX10_way_0 : decode cX10_way 0 = .ok (.aload_n 0, 1) := by decide +kernel
theorem dX10_way_1 : decode cX10_way 1 = .ok (.getfield 22, 3) := by decide +kernel
theorem dX10_way_4 : decode cX10_way 4 = .ok (.iload_n 1, 1) := by decide +kernel
theorem dX10_way_5 : decode cX10_way 5 = .ok (.invokevirtual 119, 3) := by decide +kernel
theorem dX10_way_8 : decode cX10_way 8 = .ok (.ifCond .eq 14, 3) := by decide +kernel
theorem dX10_way_11 : decode cX10_way 11 = .ok (.aload_n 0, 1) := by decide +kernel
theorem dX10_way_12 : decode cX10_way 12 = .ok (.getfield 22, 3) := by decide +kernel
theorem dX10_way_15 : decode cX10_way 15 = .ok (.iload_n 2, 1) := by decide +kernel
theorem dX10_way_16 : decode cX10_way 16 = .ok (.invokevirtual 119, 3) := by decide +kernel
theorem dX10_way_19 : decode cX10_way 19 = .ok (.ifCond .ne 6, 3) := by decide +kernel
theorem dX10_way_22 : decode cX10_way 22 = .ok (.ldc 52, 2) := by decide +kernel
theorem dX10_way_24 : decode cX10_way 24 = .ok (.ireturn, 1) := by decide +kernel
theorem dX10_way_25 : decode cX10_way 25 = .ok (.aload_n 0, 1) := by decide +kernel
theorem dX10_way_26 : decode cX10_way 26 = .ok (.getfield 22, 3) := by decide +kernel
theorem dX10_way_29 : decode cX10_way 29 = .ok (.iload_n 1, 1) := by decide +kernel
theorem dX10_way_30 : decode cX10_way 30 = .ok (.iload_n 2, 1) := by decide +kernel
theorem dX10_way_31 : decode cX10_way 31 = .ok (.invokevirtual 149, 3) := by decide +kernel
theorem dX10_way_34 : decode cX10_way 34 = .ok (.ireturn, 1) := by decide +kernel
theorem dX10_holes_0 : decode cX10_holes 0 = .ok (.aload_n 0, 1) := by decide +kernel
theorem dX10_holes_1 : decode cX10_holes 1 = .ok (.getfield 22, 3) := by decide +kernel
theorem dX10_holes_4 : decode cX10_holes 4 = .ok (.getfield 153, 3) := by decide +kernel
theorem dX10_holes_7 : decode cX10_holes 7 = .ok (.ireturn, 1) := by decide +kernel
theorem dX10_asked_0 : decode cX10_asked 0 = .ok (.aload_n 0, 1) := by decide +kernel
theorem dX10_asked_1 : decode cX10_asked 1 = .ok (.iload_n 1, 1) := by decide +kernel
theorem dX10_asked_2 : decode cX10_asked 2 = .ok (.invokevirtual 48, 3) := by decide +kernel
theorem dX10_asked_5 : decode cX10_asked 5 = .ok (.astore_n 2, 1) := by decide +kernel
theorem dX10_asked_6 : decode cX10_asked 6 = .ok (.aload_n 2, 1) := by decide +kernel
theorem dX10_asked_7 : decode cX10_asked 7 = .ok (.ifnonnull 8, 3) := by decide +kernel
theorem dX10_asked_10 : decode cX10_asked 10 = .ok (.ldc 52, 2) := by decide +kernel
theorem dX10_asked_12 : decode cX10_asked 12 = .ok (.goto 7, 3) := by decide +kernel
theorem dX10_asked_15 : decode cX10_asked 15 = .ok (.aload_n 2, 1) := by decide +kernel
theorem dX10_asked_16 : decode cX10_asked 16 = .ok (.getfield 156, 3) := by decide +kernel
theorem dX10_asked_19 : decode cX10_asked 19 = .ok (.ireturn, 1) := by decide +kernel
theorem dX10_tells_0 : decode cX10_tells 0 = .ok (.aload_n 0, 1) := by decide +kernel
theorem dX10_tells_1 : decode cX10_tells 1 = .ok (.iload_n 1, 1) := by decide +kernel
theorem dX10_tells_2 : decode cX10_tells 2 = .ok (.invokevirtual 48, 3) := by decide +kernel
theorem dX10_tells_5 : decode cX10_tells 5 = .ok (.astore_n 3, 1) := by decide +kernel
theorem dX10_tells_6 : decode cX10_tells 6 = .ok (.aload_n 3, 1) := by decide +kernel
theorem dX10_tells_7 : decode cX10_tells 7 = .ok (.ifnonnull 6, 3) := by decide +kernel
theorem dX10_tells_10 : decode cX10_tells 10 = .ok (.ldc 52, 2) := by decide +kernel
theorem dX10_tells_12 : decode cX10_tells 12 = .ok (.ireturn, 1) := by decide +kernel
theorem dX10_tells_13 : decode cX10_tells 13 = .ok (.iload_n 2, 1) := by decide +kernel
theorem dX10_tells_14 : decode cX10_tells 14 = .ok (.tableswitch 62 0 2 #[26, 38, 50], 26) := by decide +kernel
theorem dX10_tells_40 : decode cX10_tells 40 = .ok (.aload_n 3, 1) := by decide +kernel
theorem dX10_tells_41 : decode cX10_tells 41 = .ok (.invokevirtual 159, 3) := by decide +kernel
theorem dX10_tells_44 : decode cX10_tells 44 = .ok (.aload_n 3, 1) := by decide +kernel
theorem dX10_tells_45 : decode cX10_tells 45 = .ok (.invokevirtual 163, 3) := by decide +kernel
theorem dX10_tells_48 : decode cX10_tells 48 = .ok (.invokestatic 166, 3) := by decide +kernel
theorem dX10_tells_51 : decode cX10_tells 51 = .ok (.ireturn, 1) := by decide +kernel
theorem dX10_tells_52 : decode cX10_tells 52 = .ok (.aload_n 3, 1) := by decide +kernel
theorem dX10_tells_53 : decode cX10_tells 53 = .ok (.invokevirtual 169, 3) := by decide +kernel
theorem dX10_tells_56 : decode cX10_tells 56 = .ok (.aload_n 3, 1) := by decide +kernel
theorem dX10_tells_57 : decode cX10_tells 57 = .ok (.invokevirtual 172, 3) := by decide +kernel
theorem dX10_tells_60 : decode cX10_tells 60 = .ok (.invokestatic 166, 3) := by decide +kernel
theorem dX10_tells_63 : decode cX10_tells 63 = .ok (.ireturn, 1) := by decide +kernel
theorem dX10_tells_64 : decode cX10_tells 64 = .ok (.aload_n 3, 1) := by decide +kernel
theorem dX10_tells_65 : decode cX10_tells 65 = .ok (.invokevirtual 175, 3) := by decide +kernel
theorem dX10_tells_68 : decode cX10_tells 68 = .ok (.aload_n 3, 1) := by decide +kernel
theorem dX10_tells_69 : decode cX10_tells 69 = .ok (.invokevirtual 178, 3) := by decide +kernel
theorem dX10_tells_72 : decode cX10_tells 72 = .ok (.invokestatic 166, 3) := by decide +kernel
theorem dX10_tells_75 : decode cX10_tells 75 = .ok (.ireturn, 1) := by decide +kernel
theorem dX10_tells_76 : decode cX10_tells 76 = .ok (.ldc 42, 2) := by decide +kernel
theorem dX10_tells_78 : decode cX10_tells 78 = .ok (.ireturn, 1) := by decide +kernel
theorem dX10_is_0 : decode cX10_is 0 = .ok (.aload_n 0, 1) := by decide +kernel
theorem dX10_is_1 : decode cX10_is 1 = .ok (.iload_n 1, 1) := by decide +kernel
theorem dX10_is_2 : decode cX10_is 2 = .ok (.invokevirtual 48, 3) := by decide +kernel
theorem dX10_is_5 : decode cX10_is 5 = .ok (.astore_n 3, 1) := by decide +kernel
theorem dX10_is_6 : decode cX10_is 6 = .ok (.aload_n 3, 1) := by decide +kernel
theorem dX10_is_7 : decode cX10_is 7 = .ok (.ifnonnull 6, 3) := by decide +kernel
theorem dX10_is_10 : decode cX10_is 10 = .ok (.ldc 52, 2) := by decide +kernel
theorem dX10_is_12 : decode cX10_is 12 = .ok (.ireturn, 1) := by decide +kernel
theorem dX10_is_13 : decode cX10_is 13 = .ok (.iload_n 2, 1) := by decide +kernel
theorem dX10_is_14 : decode cX10_is 14 = .ok (.tableswitch 50 0 2 #[26, 34, 42], 26) := by decide +kernel
theorem dX10_is_40 : decode cX10_is 40 = .ok (.aload_n 3, 1) := by decide +kernel
theorem dX10_is_41 : decode cX10_is 41 = .ok (.instanceof 97, 3) := by decide +kernel
theorem dX10_is_44 : decode cX10_is 44 = .ok (.invokestatic 77, 3) := by decide +kernel
theorem dX10_is_47 : decode cX10_is 47 = .ok (.ireturn, 1) := by decide +kernel
theorem dX10_is_48 : decode cX10_is 48 = .ok (.aload_n 3, 1) := by decide +kernel
theorem dX10_is_49 : decode cX10_is 49 = .ok (.instanceof 181, 3) := by decide +kernel
theorem dX10_is_52 : decode cX10_is 52 = .ok (.invokestatic 77, 3) := by decide +kernel
theorem dX10_is_55 : decode cX10_is 55 = .ok (.ireturn, 1) := by decide +kernel
theorem dX10_is_56 : decode cX10_is 56 = .ok (.aload_n 3, 1) := by decide +kernel
theorem dX10_is_57 : decode cX10_is 57 = .ok (.instanceof 183, 3) := by decide +kernel
theorem dX10_is_60 : decode cX10_is 60 = .ok (.invokestatic 77, 3) := by decide +kernel
theorem dX10_is_63 : decode cX10_is 63 = .ok (.ireturn, 1) := by decide +kernel
theorem dX10_is_64 : decode cX10_is 64 = .ok (.ldc 42, 2) := by decide +kernel
theorem dX10_is_66 : decode cX10_is 66 = .ok (.ireturn, 1) := by decide +kernel
theorem dX10_count_0 : decode cX10_count 0 = .ok (.iload_n 1, 1) := by decide +kernel
theorem dX10_count_1 : decode cX10_count 1 = .ok (.tableswitch 57 0 3 #[31, 36, 44, 52], 31) := by decide +kernel
theorem dX10_count_32 : decode cX10_count 32 = .ok (.aload_n 0, 1) := by decide +kernel
theorem dX10_count_33 : decode cX10_count 33 = .ok (.getfield 15, 3) := by decide +kernel
theorem dX10_count_36 : decode cX10_count 36 = .ok (.ireturn, 1) := by decide +kernel
theorem dX10_count_37 : decode cX10_count 37 = .ok (.aload_n 0, 1) := by decide +kernel
theorem dX10_count_38 : decode cX10_count 38 = .ok (.getfield 22, 3) := by decide +kernel
theorem dX10_count_41 : decode cX10_count 41 = .ok (.getfield 109, 3) := by decide +kernel
theorem dX10_count_44 : decode cX10_count 44 = .ok (.ireturn, 1) := by decide +kernel
theorem dX10_count_45 : decode cX10_count 45 = .ok (.aload_n 0, 1) := by decide +kernel
theorem dX10_count_46 : decode cX10_count 46 = .ok (.getfield 22, 3) := by decide +kernel
theorem dX10_count_49 : decode cX10_count 49 = .ok (.getfield 185, 3) := by decide +kernel
theorem dX10_count_52 : decode cX10_count 52 = .ok (.ireturn, 1) := by decide +kernel
theorem dX10_count_53 : decode cX10_count 53 = .ok (.aload_n 0, 1) := by decide +kernel
theorem dX10_count_54 : decode cX10_count 54 = .ok (.getfield 39, 3) := by decide +kernel
theorem dX10_count_57 : decode cX10_count 57 = .ok (.ireturn, 1) := by decide +kernel
theorem dX10_count_58 : decode cX10_count 58 = .ok (.ldc 42, 2) := by decide +kernel
theorem dX10_count_60 : decode cX10_count 60 = .ok (.ireturn, 1) := by decide +kernel
theorem dX10_clear_0 : decode cX10_clear 0 = .ok (.aload_n 0, 1) := by decide +kernel
theorem dX10_clear_1 : decode cX10_clear 1 = .ok (.getfield 15, 3) := by decide +kernel
theorem dX10_clear_4 : decode cX10_clear 4 = .ok (.istore_n 1, 1) := by decide +kernel
theorem dX10_clear_5 : decode cX10_clear 5 = .ok (.aload_n 0, 1) := by decide +kernel
theorem dX10_clear_6 : decode cX10_clear 6 = .ok (.iconst 0, 1) := by decide +kernel
theorem dX10_clear_7 : decode cX10_clear 7 = .ok (.putfield 15, 3) := by decide +kernel
theorem dX10_clear_10 : decode cX10_clear 10 = .ok (.aload_n 0, 1) := by decide +kernel
theorem dX10_clear_11 : decode cX10_clear 11 = .ok (.getfield 22, 3) := by decide +kernel
theorem dX10_clear_14 : decode cX10_clear 14 = .ok (.invokevirtual 188, 3) := by decide +kernel
theorem dX10_clear_17 : decode cX10_clear 17 = .ok (.aload_n 0, 1) := by decide +kernel
theorem dX10_clear_18 : decode cX10_clear 18 = .ok (.ldc 29, 2) := by decide +kernel
theorem dX10_clear_20 : decode cX10_clear 20 = .ok (.ldc 29, 2) := by decide +kernel
theorem dX10_clear_22 : decode cX10_clear 22 = .ok (.iconst 0, 1) := by decide +kernel
theorem dX10_clear_23 : decode cX10_clear 23 = .ok (.invokevirtual 100, 3) := by decide +kernel
theorem dX10_clear_26 : decode cX10_clear 26 = .ok (.aload_n 0, 1) := by decide +kernel
theorem dX10_clear_27 : decode cX10_clear 27 = .ok (.iconst 0, 1) := by decide +kernel
theorem dX10_clear_28 : decode cX10_clear 28 = .ok (.putfield 39, 3) := by decide +kernel
theorem dX10_clear_31 : decode cX10_clear 31 = .ok (.iload_n 1, 1) := by decide +kernel
theorem dX10_clear_32 : decode cX10_clear 32 = .ok (.ireturn, 1) := by decide +kernel
theorem dX10_newThing_0 : decode cX10_newThing 0 = .ok (.iload_n 0, 1) := by decide +kernel
theorem dX10_newThing_1 : decode cX10_newThing 1 = .ok (.tableswitch 105 1 6 #[39, 50, 61, 72, 83, 94], 39) := by decide +kernel
theorem dX10_newThing_40 : decode cX10_newThing 40 = .ok (.new 181, 3) := by decide +kernel
theorem dX10_newThing_43 : decode cX10_newThing 43 = .ok (.dup, 1) := by decide +kernel
theorem dX10_newThing_44 : decode cX10_newThing 44 = .ok (.iload_n 1, 1) := by decide +kernel
theorem dX10_newThing_45 : decode cX10_newThing 45 = .ok (.iload_n 2, 1) := by decide +kernel
theorem dX10_newThing_46 : decode cX10_newThing 46 = .ok (.iload_n 3, 1) := by decide +kernel
theorem dX10_newThing_47 : decode cX10_newThing 47 = .ok (.invokespecial 191, 3) := by decide +kernel
theorem dX10_newThing_50 : decode cX10_newThing 50 = .ok (.areturn, 1) := by decide +kernel
theorem dX10_newThing_51 : decode cX10_newThing 51 = .ok (.new 183, 3) := by decide +kernel
theorem dX10_newThing_54 : decode cX10_newThing 54 = .ok (.dup, 1) := by decide +kernel
theorem dX10_newThing_55 : decode cX10_newThing 55 = .ok (.iload_n 1, 1) := by decide +kernel
theorem dX10_newThing_56 : decode cX10_newThing 56 = .ok (.iload_n 2, 1) := by decide +kernel
theorem dX10_newThing_57 : decode cX10_newThing 57 = .ok (.iload_n 3, 1) := by decide +kernel
theorem dX10_newThing_58 : decode cX10_newThing 58 = .ok (.invokespecial 193, 3) := by decide +kernel
theorem dX10_newThing_61 : decode cX10_newThing 61 = .ok (.areturn, 1) := by decide +kernel
theorem dX10_newThing_62 : decode cX10_newThing 62 = .ok (.new 194, 3) := by decide +kernel
theorem dX10_newThing_65 : decode cX10_newThing 65 = .ok (.dup, 1) := by decide +kernel
theorem dX10_newThing_66 : decode cX10_newThing 66 = .ok (.iload_n 1, 1) := by decide +kernel
theorem dX10_newThing_67 : decode cX10_newThing 67 = .ok (.iload_n 2, 1) := by decide +kernel
theorem dX10_newThing_68 : decode cX10_newThing 68 = .ok (.iload_n 3, 1) := by decide +kernel
theorem dX10_newThing_69 : decode cX10_newThing 69 = .ok (.invokespecial 196, 3) := by decide +kernel
theorem dX10_newThing_72 : decode cX10_newThing 72 = .ok (.areturn, 1) := by decide +kernel
theorem dX10_newThing_73 : decode cX10_newThing 73 = .ok (.new 86, 3) := by decide +kernel
theorem dX10_newThing_76 : decode cX10_newThing 76 = .ok (.dup, 1) := by decide +kernel
theorem dX10_newThing_77 : decode cX10_newThing 77 = .ok (.iload_n 1, 1) := by decide +kernel
theorem dX10_newThing_78 : decode cX10_newThing 78 = .ok (.iload_n 2, 1) := by decide +kernel
theorem dX10_newThing_79 : decode cX10_newThing 79 = .ok (.iload_n 3, 1) := by decide +kernel
theorem dX10_newThing_80 : decode cX10_newThing 80 = .ok (.invokespecial 197, 3) := by decide +kernel
theorem dX10_newThing_83 : decode cX10_newThing 83 = .ok (.areturn, 1) := by decide +kernel
theorem dX10_newThing_84 : decode cX10_newThing 84 = .ok (.new 198, 3) := by decide +kernel
theorem dX10_newThing_87 : decode cX10_newThing 87 = .ok (.dup, 1) := by decide +kernel
theorem dX10_newThing_88 : decode cX10_newThing 88 = .ok (.iload_n 1, 1) := by decide +kernel
theorem dX10_newThing_89 : decode cX10_newThing 89 = .ok (.iload_n 2, 1) := by decide +kernel
theorem dX10_newThing_90 : decode cX10_newThing 90 = .ok (.iload_n 3, 1) := by decide +kernel
theorem dX10_newThing_91 : decode cX10_newThing 91 = .ok (.invokespecial 200, 3) := by decide +kernel
theorem dX10_newThing_94 : decode cX10_newThing 94 = .ok (.areturn, 1) := by decide +kernel
theorem dX10_newThing_95 : decode cX10_newThing 95 = .ok (.new 201, 3) := by decide +kernel
theorem dX10_newThing_98 : decode cX10_newThing 98 = .ok (.dup, 1) := by decide +kernel
theorem dX10_newThing_99 : decode cX10_newThing 99 = .ok (.iload_n 1, 1) := by decide +kernel
theorem dX10_newThing_100 : decode cX10_newThing 100 = .ok (.iload_n 2, 1) := by decide +kernel
theorem dX10_newThing_101 : decode cX10_newThing 101 = .ok (.iload_n 3, 1) := by decide +kernel
theorem dX10_newThing_102 : decode cX10_newThing 102 = .ok (.invokespecial 203, 3) := by decide +kernel
theorem dX10_newThing_105 : decode cX10_newThing 105 = .ok (.areturn, 1) := by decide +kernel
theorem dX10_newThing_106 : decode cX10_newThing 106 = .ok (.new 204, 3) := by decide +kernel
theorem dX10_newThing_109 : decode cX10_newThing 109 = .ok (.dup, 1) := by decide +kernel
theorem dX10_newThing_110 : decode cX10_newThing 110 = .ok (.iload_n 1, 1) := by decide +kernel
theorem dX10_newThing_111 : decode cX10_newThing 111 = .ok (.iload_n 2, 1) := by decide +kernel
theorem dX10_newThing_112 : decode cX10_newThing 112 = .ok (.iload_n 3, 1) := by decide +kernel
theorem dX10_newThing_113 : decode cX10_newThing 113 = .ok (.invokespecial 206, 3) := by decide +kernel
theorem dX10_newThing_116 : decode cX10_newThing 116 = .ok (.areturn, 1) := by decide +kernel
theorem dX10_isThing_0 : decode cX10_isThing 0 = .ok (.iload_n 1, 1) := by decide +kernel
theorem dX10_isThing_1 : decode cX10_isThing 1 = .ok (.ifCond .lt 15, 3) := by decide +kernel
theorem dX10_isThing_4 : decode cX10_isThing 4 = .ok (.iload_n 1, 1) := by decide +kernel
theorem dX10_isThing_5 : decode cX10_isThing 5 = .ok (.aload_n 0, 1) := by decide +kernel
theorem dX10_isThing_6 : decode cX10_isThing 6 = .ok (.getfield 15, 3) := by decide +kernel
theorem dX10_isThing_9 : decode cX10_isThing 9 = .ok (.if_icmp .ge 7, 3) := by decide +kernel
theorem dX10_isThing_12 : decode cX10_isThing 12 = .ok (.iconst 1, 1) := by decide +kernel
theorem dX10_isThing_13 : decode cX10_isThing 13 = .ok (.goto 4, 3) := by decide +kernel
theorem dX10_isThing_16 : decode cX10_isThing 16 = .ok (.iconst 0, 1) := by decide +kernel
theorem dX10_isThing_17 : decode cX10_isThing 17 = .ok (.ireturn, 1) := by decide +kernel
theorem dX10_isThingOrNone_0 : decode cX10_isThingOrNone 0 = .ok (.iload_n 1, 1) := by decide +kernel
theorem dX10_isThingOrNone_1 : decode cX10_isThingOrNone 1 = .ok (.ldc 29, 2) := by decide +kernel
theorem dX10_isThingOrNone_3 : decode cX10_isThingOrNone 3 = .ok (.if_icmp .eq 11, 3) := by decide +kernel
theorem dX10_isThingOrNone_6 : decode cX10_isThingOrNone 6 = .ok (.aload_n 0, 1) := by decide +kernel
theorem dX10_isThingOrNone_7 : decode cX10_isThingOrNone 7 = .ok (.iload_n 1, 1) := by decide +kernel
theorem dX10_isThingOrNone_8 : decode cX10_isThingOrNone 8 = .ok (.invokevirtual 112, 3) := by decide +kernel
theorem dX10_isThingOrNone_11 : decode cX10_isThingOrNone 11 = .ok (.ifCond .eq 7, 3) := by decide +kernel
theorem dX10_isThingOrNone_14 : decode cX10_isThingOrNone 14 = .ok (.iconst 1, 1) := by decide +kernel
theorem dX10_isThingOrNone_15 : decode cX10_isThingOrNone 15 = .ok (.goto 4, 3) := by decide +kernel
theorem dX10_isThingOrNone_18 : decode cX10_isThingOrNone 18 = .ok (.iconst 0, 1) := by decide +kernel
theorem dX10_isThingOrNone_19 : decode cX10_isThingOrNone 19 = .ok (.ireturn, 1) := by decide +kernel
theorem dX10_known_0 : decode cX10_known 0 = .ok (.aload_n 0, 1) := by decide +kernel
theorem dX10_known_1 : decode cX10_known 1 = .ok (.iload_n 1, 1) := by decide +kernel
theorem dX10_known_2 : decode cX10_known 2 = .ok (.invokevirtual 112, 3) := by decide +kernel
theorem dX10_known_5 : decode cX10_known 5 = .ok (.ifCond .eq 12, 3) := by decide +kernel
theorem dX10_known_8 : decode cX10_known 8 = .ok (.aload_n 0, 1) := by decide +kernel
theorem dX10_known_9 : decode cX10_known 9 = .ok (.getfield 11, 3) := by decide +kernel
theorem dX10_known_12 : decode cX10_known 12 = .ok (.iload_n 1, 1) := by decide +kernel
theorem dX10_known_13 : decode cX10_known 13 = .ok (.aaload, 1) := by decide +kernel
theorem dX10_known_14 : decode cX10_known 14 = .ok (.goto 4, 3) := by decide +kernel
theorem dX10_known_17 : decode cX10_known 17 = .ok (.aconst_null, 1) := by decide +kernel
theorem dX10_known_18 : decode cX10_known 18 = .ok (.areturn, 1) := by decide +kernel
theorem dX10_isPlace_0 : decode cX10_isPlace 0 = .ok (.iload_n 0, 1) := by decide +kernel
theorem dX10_isPlace_1 : decode cX10_isPlace 1 = .ok (.ifCond .lt 13, 3) := by decide +kernel
theorem dX10_isPlace_4 : decode cX10_isPlace 4 = .ok (.iload_n 0, 1) := by decide +kernel
theorem dX10_isPlace_5 : decode cX10_isPlace 5 = .ok (.bipush 6, 2) := by decide +kernel
theorem dX10_isPlace_7 : decode cX10_isPlace 7 = .ok (.if_icmp .ge 7, 3) := by decide +kernel
theorem dX10_isPlace_10 : decode cX10_isPlace 10 = .ok (.iconst 1, 1) := by decide +kernel
theorem dX10_isPlace_11 : decode cX10_isPlace 11 = .ok (.goto 4, 3) := by decide +kernel
theorem dX10_isPlace_14 : decode cX10_isPlace 14 = .ok (.iconst 0, 1) := by decide +kernel
theorem dX10_isPlace_15 : decode cX10_isPlace 15 = .ok (.ireturn, 1) := by decide +kernel
theorem dX10_isStretch_0 : decode cX10_isStretch 0 = .ok (.iload_n 0, 1) := by decide +kernel
theorem dX10_isStretch_1 : decode cX10_isStretch 1 = .ok (.ifCond .lt 25, 3) := by decide +kernel
theorem dX10_isStretch_4 : decode cX10_isStretch 4 = .ok (.iload_n 1, 1) := by decide +kernel
theorem dX10_isStretch_5 : decode cX10_isStretch 5 = .ok (.ifCond .lt 21, 3) := by decide +kernel
theorem dX10_isStretch_8 : decode cX10_isStretch 8 = .ok (.iload_n 1, 1) := by decide +kernel
theorem dX10_isStretch_9 : decode cX10_isStretch 9 = .ok (.bipush 6, 2) := by decide +kernel
theorem dX10_isStretch_11 : decode cX10_isStretch 11 = .ok (.if_icmp .gt 15, 3) := by decide +kernel
theorem dX10_isStretch_14 : decode cX10_isStretch 14 = .ok (.iload_n 0, 1) := by decide +kernel
theorem dX10_isStretch_15 : decode cX10_isStretch 15 = .ok (.bipush 6, 2) := by decide +kernel
theorem dX10_isStretch_17 : decode cX10_isStretch 17 = .ok (.iload_n 1, 1) := by decide +kernel
theorem dX10_isStretch_18 : decode cX10_isStretch 18 = .ok (.isub, 1) := by decide +kernel
theorem dX10_isStretch_19 : decode cX10_isStretch 19 = .ok (.if_icmp .gt 7, 3) := by decide +kernel
theorem dX10_isStretch_22 : decode cX10_isStretch 22 = .ok (.iconst 1, 1) := by decide +kernel
theorem dX10_isStretch_23 : decode cX10_isStretch 23 = .ok (.goto 4, 3) := by decide +kernel
theorem dX10_isStretch_26 : decode cX10_isStretch 26 = .ok (.iconst 0, 1) := by decide +kernel
theorem dX10_isStretch_27 : decode cX10_isStretch 27 = .ok (.ireturn, 1) := by decide +kernel
theorem dX10_asNumber_0 : decode cX10_asNumber 0 = .ok (.iload_n 0, 1) := by decide +kernel
theorem dX10_asNumber_1 : decode cX10_asNumber 1 = .ok (.ifCond .eq 7, 3) := by decide +kernel
theorem dX10_asNumber_4 : decode cX10_asNumber 4 = .ok (.iconst 1, 1) := by decide +kernel
theorem dX10_asNumber_5 : decode cX10_asNumber 5 = .ok (.goto 4, 3) := by decide +kernel
theorem dX10_asNumber_8 : decode cX10_asNumber 8 = .ok (.iconst 0, 1) := by decide +kernel
theorem dX10_asNumber_9 : decode cX10_asNumber 9 = .ok (.ireturn, 1) := by decide +kernel
theorem dX10_toldOrFailed_0 : decode cX10_toldOrFailed 0 = .ok (.iload_n 1, 1) := by decide +kernel
theorem dX10_toldOrFailed_1 : decode cX10_toldOrFailed 1 = .ok (.ifCond .ne 7, 3) := by decide +kernel
theorem dX10_toldOrFailed_4 : decode cX10_toldOrFailed 4 = .ok (.iload_n 0, 1) := by decide +kernel
theorem dX10_toldOrFailed_5 : decode cX10_toldOrFailed 5 = .ok (.goto 7, 3) := by decide +kernel
theorem dX10_toldOrFailed_8 : decode cX10_toldOrFailed 8 = .ok (.ldc 108, 2) := by decide +kernel
theorem dX10_toldOrFailed_10 : decode cX10_toldOrFailed 10 = .ok (.iload_n 1, 1) := by decide +kernel
theorem dX10_toldOrFailed_11 : decode cX10_toldOrFailed 11 = .ok (.isub, 1) := by decide +kernel
theorem dX10_toldOrFailed_12 : decode cX10_toldOrFailed 12 = .ok (.ireturn, 1) := by decide +kernel
theorem dX10_countUpToBridge_0 : decode cX10_countUpToBridge 0 = .ok (.iconst 0, 1) := by decide +kernel
theorem dX10_countUpToBridge_1 : decode cX10_countUpToBridge 1 = .ok (.istore_n 3, 1) := by decide +kernel
theorem dX10_countUpToBridge_2 : decode cX10_countUpToBridge 2 = .ok (.iload_n 3, 1) := by decide +kernel
theorem dX10_countUpToBridge_3 : decode cX10_countUpToBridge 3 = .ok (.iload_n 2, 1) := by decide +kernel
theorem dX10_countUpToBridge_4 : decode cX10_countUpToBridge 4 = .ok (.if_icmp .ge 22, 3) := by decide +kernel
theorem dX10_countUpToBridge_7 : decode cX10_countUpToBridge 7 = .ok (.aload_n 0, 1) := by decide +kernel
theorem dX10_countUpToBridge_8 : decode cX10_countUpToBridge 8 = .ok (.iload_n 1, 1) := by decide +kernel
theorem dX10_countUpToBridge_9 : decode cX10_countUpToBridge 9 = .ok (.iload_n 3, 1) := by decide +kernel
theorem dX10_countUpToBridge_10 : decode cX10_countUpToBridge 10 = .ok (.iadd, 1) := by decide +kernel
theorem dX10_countUpToBridge_11 : decode cX10_countUpToBridge 11 = .ok (.aaload, 1) := by decide +kernel
theorem dX10_countUpToBridge_12 : decode cX10_countUpToBridge 12 = .ok (.instanceof 183, 3) := by decide +kernel
theorem dX10_countUpToBridge_15 : decode cX10_countUpToBridge 15 = .ok (.ifCond .eq 5, 3) := by decide +kernel
theorem dX10_countUpToBridge_18 : decode cX10_countUpToBridge 18 = .ok (.iload_n 3, 1) := by decide +kernel
theorem dX10_countUpToBridge_19 : decode cX10_countUpToBridge 19 = .ok (.ireturn, 1) := by decide +kernel
theorem dX10_countUpToBridge_20 : decode cX10_countUpToBridge 20 = .ok (.iinc 3 1, 3) := by decide +kernel
theorem dX10_countUpToBridge_23 : decode cX10_countUpToBridge 23 = .ok (.goto (-21), 3) := by decide +kernel
theorem dX10_countUpToBridge_26 : decode cX10_countUpToBridge 26 = .ok (.iload_n 2, 1) := by decide +kernel
theorem dX10_countUpToBridge_27 : decode cX10_countUpToBridge 27 = .ok (.ireturn, 1) := by decide +kernel
theorem dX10_copyStretch_0 : decode cX10_copyStretch 0 = .ok (.iload_n 1, 1) := by decide +kernel
theorem dX10_copyStretch_1 : decode cX10_copyStretch 1 = .ok (.iload_n 3, 1) := by decide +kernel
theorem dX10_copyStretch_2 : decode cX10_copyStretch 2 = .ok (.if_icmp .lt 34, 3) := by decide +kernel
theorem dX10_copyStretch_5 : decode cX10_copyStretch 5 = .ok (.iconst 0, 1) := by decide +kernel
theorem dX10_copyStretch_6 : decode cX10_copyStretch 6 = .ok (.istore 5, 2) := by decide +kernel
theorem dX10_copyStretch_8 : decode cX10_copyStretch 8 = .ok (.iload 5, 2) := by decide +kernel
theorem dX10_copyStretch_10 : decode cX10_copyStretch 10 = .ok (.iload 4, 2) := by decide +kernel
theorem dX10_copyStretch_12 : decode cX10_copyStretch 12 = .ok (.if_icmp .ge 21, 3) := by decide +kernel
theorem dX10_copyStretch_15 : decode cX10_copyStretch 15 = .ok (.aload_n 2, 1) := by decide +kernel
theorem dX10_copyStretch_16 : decode cX10_copyStretch 16 = .ok (.iload_n 3, 1) := by decide +kernel
theorem dX10_copyStretch_17 : decode cX10_copyStretch 17 = .ok (.iload 5, 2) := by decide +kernel
theorem dX10_copyStretch_19 : decode cX10_copyStretch 19 = .ok (.iadd, 1) := by decide +kernel
theorem dX10_copyStretch_20 : decode cX10_copyStretch 20 = .ok (.aload_n 0, 1) := by decide +kernel
theorem dX10_copyStretch_21 : decode cX10_copyStretch 21 = .ok (.iload_n 1, 1) := by decide +kernel
theorem dX10_copyStretch_22 : decode cX10_copyStretch 22 = .ok (.iload 5, 2) := by decide +kernel
theorem dX10_copyStretch_24 : decode cX10_copyStretch 24 = .ok (.iadd, 1) := by decide +kernel
theorem dX10_copyStretch_25 : decode cX10_copyStretch 25 = .ok (.aaload, 1) := by decide +kernel
theorem dX10_copyStretch_26 : decode cX10_copyStretch 26 = .ok (.aastore, 1) := by decide +kernel
theorem dX10_copyStretch_27 : decode cX10_copyStretch 27 = .ok (.iinc 5 1, 3) := by decide +kernel
theorem dX10_copyStretch_30 : decode cX10_copyStretch 30 = .ok (.goto (-22), 3) := by decide +kernel
theorem dX10_copyStretch_33 : decode cX10_copyStretch 33 = .ok (.goto 32, 3) := by decide +kernel
theorem dX10_copyStretch_36 : decode cX10_copyStretch 36 = .ok (.iload 4, 2) := by decide +kernel
theorem dX10_copyStretch_38 : decode cX10_copyStretch 38 = .ok (.iconst 1, 1) := by decide +kernel
theorem dX10_copyStretch_39 : decode cX10_copyStretch 39 = .ok (.isub, 1) := by decide +kernel
theorem dX10_copyStretch_40 : decode cX10_copyStretch 40 = .ok (.istore 5, 2) := by decide +kernel
theorem dX10_copyStretch_42 : decode cX10_copyStretch 42 = .ok (.iload 5, 2) := by decide +kernel
theorem dX10_copyStretch_44 : decode cX10_copyStretch 44 = .ok (.ifCond .lt 21, 3) := by decide +kernel
theorem dX10_copyStretch_47 : decode cX10_copyStretch 47 = .ok (.aload_n 2, 1) := by decide +kernel
theorem dX10_copyStretch_48 : decode cX10_copyStretch 48 = .ok (.iload_n 3, 1) := by decide +kernel
theorem dX10_copyStretch_49 : decode cX10_copyStretch 49 = .ok (.iload 5, 2) := by decide +kernel
theorem dX10_copyStretch_51 : decode cX10_copyStretch 51 = .ok (.iadd, 1) := by decide +kernel
theorem dX10_copyStretch_52 : decode cX10_copyStretch 52 = .ok (.aload_n 0, 1) := by decide +kernel
theorem dX10_copyStretch_53 : decode cX10_copyStretch 53 = .ok (.iload_n 1, 1) := by decide +kernel
theorem dX10_copyStretch_54 : decode cX10_copyStretch 54 = .ok (.iload 5, 2) := by decide +kernel
theorem dX10_copyStretch_56 : decode cX10_copyStretch 56 = .ok (.iadd, 1) := by decide +kernel
theorem dX10_copyStretch_57 : decode cX10_copyStretch 57 = .ok (.aaload, 1) := by decide +kernel
theorem dX10_copyStretch_58 : decode cX10_copyStretch 58 = .ok (.aastore, 1) := by decide +kernel
theorem dX10_copyStretch_59 : decode cX10_copyStretch 59 = .ok (.iinc 5 (-1), 3) := by decide +kernel
theorem dX10_copyStretch_62 : decode cX10_copyStretch 62 = .ok (.goto (-20), 3) := by decide +kernel
theorem dX10_copyStretch_65 : decode cX10_copyStretch 65 = .ok (.return_, 1) := by decide +kernel
theorem dX10_endLoad_0 : decode cX10_endLoad 0 = .ok (.aload_n 0, 1) := by decide +kernel
theorem dX10_endLoad_1 : decode cX10_endLoad 1 = .ok (.iload_n 1, 1) := by decide +kernel
theorem dX10_endLoad_2 : decode cX10_endLoad 2 = .ok (.putfield 30, 3) := by decide +kernel
theorem dX10_endLoad_5 : decode cX10_endLoad 5 = .ok (.aload_n 0, 1) := by decide +kernel
theorem dX10_endLoad_6 : decode cX10_endLoad 6 = .ok (.iload_n 2, 1) := by decide +kernel
theorem dX10_endLoad_7 : decode cX10_endLoad 7 = .ok (.putfield 33, 3) := by decide +kernel
theorem dX10_endLoad_10 : decode cX10_endLoad 10 = .ok (.aload_n 0, 1) := by decide +kernel
theorem dX10_endLoad_11 : decode cX10_endLoad 11 = .ok (.iload_n 3, 1) := by decide +kernel
theorem dX10_endLoad_12 : decode cX10_endLoad 12 = .ok (.putfield 36, 3) := by decide +kernel
theorem dX10_endLoad_15 : decode cX10_endLoad 15 = .ok (.return_, 1) := by decide +kernel
theorem dX10_failed_0 : decode cX10_failed 0 = .ok (.aload_n 0, 1) := by decide +kernel
theorem dX10_failed_1 : decode cX10_failed 1 = .ok (.aload_n 1, 1) := by decide +kernel
theorem dX10_failed_2 : decode cX10_failed 2 = .ok (.getfield 207, 3) := by decide +kernel
theorem dX10_failed_5 : decode cX10_failed 5 = .ok (.ldc 29, 2) := by decide +kernel
theorem dX10_failed_7 : decode cX10_failed 7 = .ok (.iload_n 2, 1) := by decide +kernel
theorem dX10_failed_8 : decode cX10_failed 8 = .ok (.invokevirtual 100, 3) := by decide +kernel
theorem dX10_failed_11 : decode cX10_failed 11 = .ok (.iconst 0, 1) := by decide +kernel
theorem dX10_failed_12 : decode cX10_failed 12 = .ok (.ireturn, 1) := by decide +kernel
theorem dX10_build_0 : decode cX10_build 0 = .ok (.aload_n 0, 1) := by decide +kernel
theorem dX10_build_1 : decode cX10_build 1 = .ok (.getfield 26, 3) := by decide +kernel
theorem dX10_build_4 : decode cX10_build 4 = .ok (.invokevirtual 188, 3) := by decide +kernel
theorem dX10_build_7 : decode cX10_build 7 = .ok (.aload_n 0, 1) := by decide +kernel
theorem dX10_build_8 : decode cX10_build 8 = .ok (.getfield 26, 3) := by decide +kernel
theorem dX10_build_11 : decode cX10_build 11 = .ok (.aload_n 1, 1) := by decide +kernel
theorem dX10_build_12 : decode cX10_build 12 = .ok (.invokevirtual 208, 3) := by decide +kernel
theorem dX10_build_15 : decode cX10_build 15 = .ok (.pop, 1) := by decide +kernel
theorem dX10_build_16 : decode cX10_build 16 = .ok (.iconst 0, 1) := by decide +kernel
theorem dX10_build_17 : decode cX10_build 17 = .ok (.istore_n 3, 1) := by decide +kernel
theorem dX10_build_18 : decode cX10_build 18 = .ok (.iload_n 3, 1) := by decide +kernel
theorem dX10_build_19 : decode cX10_build 19 = .ok (.bipush 40, 2) := by decide +kernel
theorem dX10_build_21 : decode cX10_build 21 = .ok (.if_icmp .ge 79, 3) := by decide +kernel
theorem dX10_build_24 : decode cX10_build 24 = .ok (.iload_n 3, 1) := by decide +kernel
theorem dX10_build_25 : decode cX10_build 25 = .ok (.aload_n 0, 1) := by decide +kernel
theorem dX10_build_26 : decode cX10_build 26 = .ok (.getfield 26, 3) := by decide +kernel
theorem dX10_build_29 : decode cX10_build 29 = .ok (.getfield 109, 3) := by decide +kernel
theorem dX10_build_32 : decode cX10_build 32 = .ok (.if_icmp .ge 68, 3) := by decide +kernel
theorem dX10_build_35 : decode cX10_build 35 = .ok (.aload_n 0, 1) := by decide +kernel
theorem dX10_build_36 : decode cX10_build 36 = .ok (.getfield 26, 3) := by decide +kernel
theorem dX10_build_39 : decode cX10_build 39 = .ok (.getfield 122, 3) := by decide +kernel
theorem dX10_build_42 : decode cX10_build 42 = .ok (.iload_n 3, 1) := by decide +kernel
theorem dX10_build_43 : decode cX10_build 43 = .ok (.aaload, 1) := by decide +kernel
theorem dX10_build_44 : decode cX10_build 44 = .ok (.astore 4, 2) := by decide +kernel
theorem dX10_build_46 : decode cX10_build 46 = .ok (.iload_n 2, 1) := by decide +kernel
theorem dX10_build_47 : decode cX10_build 47 = .ok (.ifCond .eq 13, 3) := by decide +kernel
theorem dX10_build_50 : decode cX10_build 50 = .ok (.aload_n 0, 1) := by decide +kernel
theorem dX10_build_51 : decode cX10_build 51 = .ok (.iload_n 3, 1) := by decide +kernel
theorem dX10_build_52 : decode cX10_build 52 = .ok (.aload 4, 2) := by decide +kernel
theorem dX10_build_54 : decode cX10_build 54 = .ok (.invokevirtual 212, 3) := by decide +kernel
theorem dX10_build_57 : decode cX10_build 57 = .ok (.ifCond .eq 27, 3) := by decide +kernel
theorem dX10_build_60 : decode cX10_build 60 = .ok (.aload_n 0, 1) := by decide +kernel
theorem dX10_build_61 : decode cX10_build 61 = .ok (.iload_n 3, 1) := by decide +kernel
theorem dX10_build_62 : decode cX10_build 62 = .ok (.aload 4, 2) := by decide +kernel
theorem dX10_build_64 : decode cX10_build 64 = .ok (.invokevirtual 216, 3) := by decide +kernel
theorem dX10_build_67 : decode cX10_build 67 = .ok (.ifCond .eq 17, 3) := by decide +kernel
theorem dX10_build_70 : decode cX10_build 70 = .ok (.aload_n 0, 1) := by decide +kernel
theorem dX10_build_71 : decode cX10_build 71 = .ok (.iload_n 3, 1) := by decide +kernel
theorem dX10_build_72 : decode cX10_build 72 = .ok (.aload 4, 2) := by decide +kernel
theorem dX10_build_74 : decode cX10_build 74 = .ok (.invokevirtual 219, 3) := by decide +kernel
theorem dX10_build_77 : decode cX10_build 77 = .ok (.ifCond .eq 7, 3) := by decide +kernel
theorem dX10_build_80 : decode cX10_build 80 = .ok (.iconst 1, 1) := by decide +kernel
theorem dX10_build_81 : decode cX10_build 81 = .ok (.goto 4, 3) := by decide +kernel
theorem dX10_build_84 : decode cX10_build 84 = .ok (.iconst 0, 1) := by decide +kernel
theorem dX10_build_85 : decode cX10_build 85 = .ok (.istore 5, 2) := by decide +kernel
theorem dX10_build_87 : decode cX10_build 87 = .ok (.iload 5, 2) := by decide +kernel
theorem dX10_build_89 : decode cX10_build 89 = .ok (.ifCond .ne 5, 3) := by decide +kernel
theorem dX10_build_92 : decode cX10_build 92 = .ok (.iconst 0, 1) := by decide +kernel
theorem dX10_build_93 : decode cX10_build 93 = .ok (.ireturn, 1) := by decide +kernel
theorem dX10_build_94 : decode cX10_build 94 = .ok (.iinc 3 1, 3) := by decide +kernel
theorem dX10_build_97 : decode cX10_build 97 = .ok (.goto (-79), 3) := by decide +kernel
theorem dX10_build_100 : decode cX10_build 100 = .ok (.iconst 1, 1) := by decide +kernel
theorem dX10_build_101 : decode cX10_build 101 = .ok (.ireturn, 1) := by decide +kernel
theorem dX10_askKey_0 : decode cX10_askKey 0 = .ok (.aload_n 2, 1) := by decide +kernel
theorem dX10_askKey_1 : decode cX10_askKey 1 = .ok (.dup, 1) := by decide +kernel
theorem dX10_askKey_2 : decode cX10_askKey 2 = .ok (.getfield 222, 3) := by decide +kernel
theorem dX10_askKey_5 : decode cX10_askKey 5 = .ok (.iconst 1, 1) := by decide +kernel
theorem dX10_askKey_6 : decode cX10_askKey 6 = .ok (.iadd, 1) := by decide +kernel
theorem dX10_askKey_7 : decode cX10_askKey 7 = .ok (.putfield 222, 3) := by decide +kernel
theorem dX10_askKey_10 : decode cX10_askKey 10 = .ok (.aload_n 2, 1) := by decide +kernel
theorem dX10_askKey_11 : decode cX10_askKey 11 = .ok (.invokevirtual 223, 3) := by decide +kernel
theorem dX10_askKey_14 : decode cX10_askKey 14 = .ok (.istore_n 3, 1) := by decide +kernel
theorem dX10_askKey_15 : decode cX10_askKey 15 = .ok (.iload_n 3, 1) := by decide +kernel
theorem dX10_askKey_16 : decode cX10_askKey 16 = .ok (.ifCond .eq 10, 3) := by decide +kernel
theorem dX10_askKey_19 : decode cX10_askKey 19 = .ok (.aload_n 0, 1) := by decide +kernel
theorem dX10_askKey_20 : decode cX10_askKey 20 = .ok (.aload_n 2, 1) := by decide +kernel
theorem dX10_askKey_21 : decode cX10_askKey 21 = .ok (.iload_n 3, 1) := by decide +kernel
theorem dX10_askKey_22 : decode cX10_askKey 22 = .ok (.invokevirtual 224, 3) := by decide +kernel
theorem dX10_askKey_25 : decode cX10_askKey 25 = .ok (.ireturn, 1) := by decide +kernel
theorem dX10_askKey_26 : decode cX10_askKey 26 = .ok (.aload_n 2, 1) := by decide +kernel
theorem dX10_askKey_27 : decode cX10_askKey 27 = .ok (.invokevirtual 228, 3) := by decide +kernel
theorem dX10_askKey_30 : decode cX10_askKey 30 = .ok (.istore 4, 2) := by decide +kernel
theorem dX10_askKey_32 : decode cX10_askKey 32 = .ok (.iconst 0, 1) := by decide +kernel
theorem dX10_askKey_33 : decode cX10_askKey 33 = .ok (.istore 5, 2) := by decide +kernel
theorem dX10_askKey_35 : decode cX10_askKey 35 = .ok (.iload 5, 2) := by decide +kernel
theorem dX10_askKey_37 : decode cX10_askKey 37 = .ok (.iload_n 1, 1) := by decide +kernel
theorem dX10_askKey_38 : decode cX10_askKey 38 = .ok (.if_icmp .ge 48, 3) := by decide +kernel
theorem dX10_askKey_41 : decode cX10_askKey 41 = .ok (.aload_n 0, 1) := by decide +kernel
theorem dX10_askKey_42 : decode cX10_askKey 42 = .ok (.getfield 26, 3) := by decide +kernel
theorem dX10_askKey_45 : decode cX10_askKey 45 = .ok (.getfield 122, 3) := by decide +kernel
theorem dX10_askKey_48 : decode cX10_askKey 48 = .ok (.iload 5, 2) := by decide +kernel
theorem dX10_askKey_50 : decode cX10_askKey 50 = .ok (.aaload, 1) := by decide +kernel
theorem dX10_askKey_51 : decode cX10_askKey 51 = .ok (.astore 6, 2) := by decide +kernel
theorem dX10_askKey_53 : decode cX10_askKey 53 = .ok (.aload 6, 2) := by decide +kernel
theorem dX10_askKey_55 : decode cX10_askKey 55 = .ok (.invokevirtual 228, 3) := by decide +kernel
theorem dX10_askKey_58 : decode cX10_askKey 58 = .ok (.iload 4, 2) := by decide +kernel
theorem dX10_askKey_60 : decode cX10_askKey 60 = .ok (.if_icmp .ne 20, 3) := by decide +kernel
theorem dX10_askKey_63 : decode cX10_askKey 63 = .ok (.aload_n 0, 1) := by decide +kernel
theorem dX10_askKey_64 : decode cX10_askKey 64 = .ok (.aload_n 2, 1) := by decide +kernel
theorem dX10_askKey_65 : decode cX10_askKey 65 = .ok (.getfield 126, 3) := by decide +kernel
theorem dX10_askKey_68 : decode cX10_askKey 68 = .ok (.aload 6, 2) := by decide +kernel
theorem dX10_askKey_70 : decode cX10_askKey 70 = .ok (.getfield 126, 3) := by decide +kernel
theorem dX10_askKey_73 : decode cX10_askKey 73 = .ok (.bipush 6, 2) := by decide +kernel
theorem dX10_askKey_75 : decode cX10_askKey 75 = .ok (.invokevirtual 100, 3) := by decide +kernel
theorem dX10_askKey_78 : decode cX10_askKey 78 = .ok (.iconst 0, 1) := by decide +kernel
theorem dX10_askKey_79 : decode cX10_askKey 79 = .ok (.ireturn, 1) := by decide +kernel
theorem dX10_askKey_80 : decode cX10_askKey 80 = .ok (.iinc 5 1, 3) := by decide +kernel
theorem dX10_askKey_83 : decode cX10_askKey 83 = .ok (.goto (-48), 3) := by decide +kernel
theorem dX10_askKey_86 : decode cX10_askKey 86 = .ok (.iconst 1, 1) := by decide +kernel
theorem dX10_askKey_87 : decode cX10_askKey 87 = .ok (.ireturn, 1) := by decide +kernel
theorem dX10_askValue_0 : decode cX10_askValue 0 = .ok (.aload_n 2, 1) := by decide +kernel
theorem dX10_askValue_1 : decode cX10_askValue 1 = .ok (.dup, 1) := by decide +kernel
theorem dX10_askValue_2 : decode cX10_askValue 2 = .ok (.getfield 222, 3) := by decide +kernel
theorem dX10_askValue_5 : decode cX10_askValue 5 = .ok (.iconst 1, 1) := by decide +kernel
theorem dX10_askValue_6 : decode cX10_askValue 6 = .ok (.iadd, 1) := by decide +kernel
theorem dX10_askValue_7 : decode cX10_askValue 7 = .ok (.putfield 222, 3) := by decide +kernel
theorem dX10_askValue_10 : decode cX10_askValue 10 = .ok (.aload_n 2, 1) := by decide +kernel
theorem dX10_askValue_11 : decode cX10_askValue 11 = .ok (.invokevirtual 229, 3) := by decide +kernel
theorem dX10_askValue_14 : decode cX10_askValue 14 = .ok (.istore_n 3, 1) := by decide +kernel
theorem dX10_askValue_15 : decode cX10_askValue 15 = .ok (.iload_n 3, 1) := by decide +kernel
theorem dX10_askValue_16 : decode cX10_askValue 16 = .ok (.ifCond .eq 10, 3) := by decide +kernel
theorem dX10_askValue_19 : decode cX10_askValue 19 = .ok (.aload_n 0, 1) := by decide +kernel
theorem dX10_askValue_20 : decode cX10_askValue 20 = .ok (.aload_n 2, 1) := by decide +kernel
theorem dX10_askValue_21 : decode cX10_askValue 21 = .ok (.iload_n 3, 1) := by decide +kernel
theorem dX10_askValue_22 : decode cX10_askValue 22 = .ok (.invokevirtual 224, 3) := by decide +kernel
theorem dX10_askValue_25 : decode cX10_askValue 25 = .ok (.ireturn, 1) := by decide +kernel
theorem dX10_askValue_26 : decode cX10_askValue 26 = .ok (.aload_n 0, 1) := by decide +kernel
theorem dX10_askValue_27 : decode cX10_askValue 27 = .ok (.getfield 26, 3) := by decide +kernel
theorem dX10_askValue_30 : decode cX10_askValue 30 = .ok (.getfield 129, 3) := by decide +kernel
theorem dX10_askValue_33 : decode cX10_askValue 33 = .ok (.iload_n 1, 1) := by decide +kernel
theorem dX10_askValue_34 : decode cX10_askValue 34 = .ok (.aload_n 2, 1) := by decide +kernel
theorem dX10_askValue_35 : decode cX10_askValue 35 = .ok (.invokevirtual 230, 3) := by decide +kernel
theorem dX10_askValue_38 : decode cX10_askValue 38 = .ok (.iastore, 1) := by decide +kernel
theorem dX10_askValue_39 : decode cX10_askValue 39 = .ok (.iconst 1, 1) := by decide +kernel
theorem dX10_askValue_40 : decode cX10_askValue 40 = .ok (.ireturn, 1) := by decide +kernel
theorem dX10_askLinks_0 : decode cX10_askLinks 0 = .ok (.aload_n 2, 1) := by decide +kernel
theorem dX10_askLinks_1 : decode cX10_askLinks 1 = .ok (.dup, 1) := by decide +kernel
theorem dX10_askLinks_2 : decode cX10_askLinks 2 = .ok (.getfield 222, 3) := by decide +kernel
theorem dX10_askLinks_5 : decode cX10_askLinks 5 = .ok (.iconst 1, 1) := by decide +kernel
theorem dX10_askLinks_6 : decode cX10_askLinks 6 = .ok (.iadd, 1) := by decide +kernel
theorem dX10_askLinks_7 : decode cX10_askLinks 7 = .ok (.putfield 222, 3) := by decide +kernel
theorem dX10_askLinks_10 : decode cX10_askLinks 10 = .ok (.aload_n 2, 1) := by decide +kernel
theorem dX10_askLinks_11 : decode cX10_askLinks 11 = .ok (.invokevirtual 231, 3) := by decide +kernel
theorem dX10_askLinks_14 : decode cX10_askLinks 14 = .ok (.istore_n 3, 1) := by decide +kernel
theorem dX10_askLinks_15 : decode cX10_askLinks 15 = .ok (.iload_n 3, 1) := by decide +kernel
theorem dX10_askLinks_16 : decode cX10_askLinks 16 = .ok (.ifCond .eq 10, 3) := by decide +kernel
theorem dX10_askLinks_19 : decode cX10_askLinks 19 = .ok (.aload_n 0, 1) := by decide +kernel
theorem dX10_askLinks_20 : decode cX10_askLinks 20 = .ok (.aload_n 2, 1) := by decide +kernel
theorem dX10_askLinks_21 : decode cX10_askLinks 21 = .ok (.iload_n 3, 1) := by decide +kernel
theorem dX10_askLinks_22 : decode cX10_askLinks 22 = .ok (.invokevirtual 224, 3) := by decide +kernel
theorem dX10_askLinks_25 : decode cX10_askLinks 25 = .ok (.ireturn, 1) := by decide +kernel
theorem dX10_askLinks_26 : decode cX10_askLinks 26 = .ok (.aload_n 2, 1) := by decide +kernel
theorem dX10_askLinks_27 : decode cX10_askLinks 27 = .ok (.invokevirtual 232, 3) := by decide +kernel
theorem dX10_askLinks_30 : decode cX10_askLinks 30 = .ok (.istore 4, 2) := by decide +kernel
theorem dX10_askLinks_32 : decode cX10_askLinks 32 = .ok (.iconst 0, 1) := by decide +kernel
theorem dX10_askLinks_33 : decode cX10_askLinks 33 = .ok (.istore 5, 2) := by decide +kernel
theorem dX10_askLinks_35 : decode cX10_askLinks 35 = .ok (.iload 5, 2) := by decide +kernel
theorem dX10_askLinks_37 : decode cX10_askLinks 37 = .ok (.iload 4, 2) := by decide +kernel
theorem dX10_askLinks_39 : decode cX10_askLinks 39 = .ok (.if_icmp .ge 25, 3) := by decide +kernel
theorem dX10_askLinks_42 : decode cX10_askLinks 42 = .ok (.aload_n 0, 1) := by decide +kernel
theorem dX10_askLinks_43 : decode cX10_askLinks 43 = .ok (.aload_n 2, 1) := by decide +kernel
theorem dX10_askLinks_44 : decode cX10_askLinks 44 = .ok (.aload_n 2, 1) := by decide +kernel
theorem dX10_askLinks_45 : decode cX10_askLinks 45 = .ok (.iload 5, 2) := by decide +kernel
theorem dX10_askLinks_47 : decode cX10_askLinks 47 = .ok (.invokevirtual 233, 3) := by decide +kernel
theorem dX10_askLinks_50 : decode cX10_askLinks 50 = .ok (.invokevirtual 236, 3) := by decide +kernel
theorem dX10_askLinks_53 : decode cX10_askLinks 53 = .ok (.ifCond .ne 5, 3) := by decide +kernel
theorem dX10_askLinks_56 : decode cX10_askLinks 56 = .ok (.iconst 0, 1) := by decide +kernel
theorem dX10_askLinks_57 : decode cX10_askLinks 57 = .ok (.ireturn, 1) := by decide +kernel
theorem dX10_askLinks_58 : decode cX10_askLinks 58 = .ok (.iinc 5 1, 3) := by decide +kernel
theorem dX10_askLinks_61 : decode cX10_askLinks 61 = .ok (.goto (-26), 3) := by decide +kernel
theorem dX10_askLinks_64 : decode cX10_askLinks 64 = .ok (.aload_n 0, 1) := by decide +kernel
theorem dX10_askLinks_65 : decode cX10_askLinks 65 = .ok (.getfield 26, 3) := by decide +kernel
theorem dX10_askLinks_68 : decode cX10_askLinks 68 = .ok (.iload_n 1, 1) := by decide +kernel
theorem dX10_askLinks_69 : decode cX10_askLinks 69 = .ok (.invokevirtual 240, 3) := by decide +kernel
theorem dX10_askLinks_72 : decode cX10_askLinks 72 = .ok (.iconst 1, 1) := by decide +kernel
theorem dX10_askLinks_73 : decode cX10_askLinks 73 = .ok (.ireturn, 1) := by decide +kernel
theorem dX10_follow_0 : decode cX10_follow 0 = .ok (.aload_n 2, 1) := by decide +kernel
theorem dX10_follow_1 : decode cX10_follow 1 = .ok (.instanceof 183, 3) := by decide +kernel
theorem dX10_follow_4 : decode cX10_follow 4 = .ok (.ifCond .eq 15, 3) := by decide +kernel
theorem dX10_follow_7 : decode cX10_follow 7 = .ok (.aload_n 2, 1) := by decide +kernel
theorem dX10_follow_8 : decode cX10_follow 8 = .ok (.checkcast 183, 3) := by decide +kernel
theorem dX10_follow_11 : decode cX10_follow 11 = .ok (.astore_n 3, 1) := by decide +kernel
theorem dX10_follow_12 : decode cX10_follow 12 = .ok (.aload_n 0, 1) := by decide +kernel
theorem dX10_follow_13 : decode cX10_follow 13 = .ok (.aload_n 1, 1) := by decide +kernel
theorem dX10_follow_14 : decode cX10_follow 14 = .ok (.aload_n 3, 1) := by decide +kernel
theorem dX10_follow_15 : decode cX10_follow 15 = .ok (.invokevirtual 244, 3) := by decide +kernel
theorem dX10_follow_18 : decode cX10_follow 18 = .ok (.ireturn, 1) := by decide +kernel
theorem dX10_follow_19 : decode cX10_follow 19 = .ok (.aload_n 2, 1) := by decide +kernel
theorem dX10_follow_20 : decode cX10_follow 20 = .ok (.instanceof 97, 3) := by decide +kernel
theorem dX10_follow_23 : decode cX10_follow 23 = .ok (.ifCond .eq 21, 3) := by decide +kernel
theorem dX10_follow_26 : decode cX10_follow 26 = .ok (.aload_n 2, 1) := by decide +kernel
theorem dX10_follow_27 : decode cX10_follow 27 = .ok (.checkcast 97, 3) := by decide +kernel
theorem dX10_follow_30 : decode cX10_follow 30 = .ok (.astore_n 3, 1) := by decide +kernel
theorem dX10_follow_31 : decode cX10_follow 31 = .ok (.aload_n 0, 1) := by decide +kernel
theorem dX10_follow_32 : decode cX10_follow 32 = .ok (.getfield 26, 3) := by decide +kernel
theorem dX10_follow_35 : decode cX10_follow 35 = .ok (.aload_n 3, 1) := by decide +kernel
theorem dX10_follow_36 : decode cX10_follow 36 = .ok (.iconst 1, 1) := by decide +kernel
theorem dX10_follow_37 : decode cX10_follow 37 = .ok (.iconst 0, 1) := by decide +kernel
theorem dX10_follow_38 : decode cX10_follow 38 = .ok (.invokevirtual 248, 3) := by decide +kernel
theorem dX10_follow_41 : decode cX10_follow 41 = .ok (.goto 16, 3) := by decide +kernel
theorem dX10_follow_44 : decode cX10_follow 44 = .ok (.aload_n 0, 1) := by decide +kernel
theorem dX10_follow_45 : decode cX10_follow 45 = .ok (.getfield 26, 3) := by decide +kernel
theorem dX10_follow_48 : decode cX10_follow 48 = .ok (.dup, 1) := by decide +kernel
theorem dX10_follow_49 : decode cX10_follow 49 = .ok (.getfield 153, 3) := by decide +kernel
theorem dX10_follow_52 : decode cX10_follow 52 = .ok (.iconst 1, 1) := by decide +kernel
theorem dX10_follow_53 : decode cX10_follow 53 = .ok (.iadd, 1) := by decide +kernel
theorem dX10_follow_54 : decode cX10_follow 54 = .ok (.putfield 153, 3) := by decide +kernel
theorem dX10_follow_57 : decode cX10_follow 57 = .ok (.iconst 1, 1) := by decide +kernel
theorem dX10_follow_58 : decode cX10_follow 58 = .ok (.ireturn, 1) := by decide +kernel
theorem dX10_cross_0 : decode cX10_cross 0 = .ok (.aload_n 2, 1) := by decide +kernel
theorem dX10_cross_1 : decode cX10_cross 1 = .ok (.dup, 1) := by decide +kernel
theorem dX10_cross_2 : decode cX10_cross 2 = .ok (.getfield 252, 3) := by decide +kernel
theorem dX10_cross_5 : decode cX10_cross 5 = .ok (.iconst 1, 1) := by decide +kernel
theorem dX10_cross_6 : decode cX10_cross 6 = .ok (.iadd, 1) := by decide +kernel
theorem dX10_cross_7 : decode cX10_cross 7 = .ok (.putfield 252, 3) := by decide +kernel
theorem dX10_cross_10 : decode cX10_cross 10 = .ok (.aload_n 2, 1) := by decide +kernel
theorem dX10_cross_11 : decode cX10_cross 11 = .ok (.aload_n 1, 1) := by decide +kernel
theorem dX10_cross_12 : decode cX10_cross 12 = .ok (.invokevirtual 253, 3) := by decide +kernel
theorem dX10_cross_15 : decode cX10_cross 15 = .ok (.astore_n 3, 1) := by decide +kernel
theorem dX10_cross_16 : decode cX10_cross 16 = .ok (.aload_n 3, 1) := by decide +kernel
theorem dX10_cross_17 : decode cX10_cross 17 = .ok (.ifnonnull 10, 3) := by decide +kernel
theorem dX10_cross_20 : decode cX10_cross 20 = .ok (.aload_n 0, 1) := by decide +kernel
theorem dX10_cross_21 : decode cX10_cross 21 = .ok (.aload_n 2, 1) := by decide +kernel
theorem dX10_cross_22 : decode cX10_cross 22 = .ok (.iconst 1, 1) := by decide +kernel
theorem dX10_cross_23 : decode cX10_cross 23 = .ok (.invokevirtual 224, 3) := by decide +kernel
theorem dX10_cross_26 : decode cX10_cross 26 = .ok (.ireturn, 1) := by decide +kernel
theorem dX10_cross_27 : decode cX10_cross 27 = .ok (.aload_n 3, 1) := by decide +kernel
theorem dX10_cross_28 : decode cX10_cross 28 = .ok (.instanceof 97, 3) := by decide +kernel
theorem dX10_cross_31 : decode cX10_cross 31 = .ok (.ifCond .eq 12, 3) := by decide +kernel
theorem dX10_cross_34 : decode cX10_cross 34 = .ok (.aload_n 3, 1) := by decide +kernel
theorem dX10_cross_35 : decode cX10_cross 35 = .ok (.checkcast 97, 3) := by decide +kernel
theorem dX10_cross_38 : decode cX10_cross 38 = .ok (.astore 4, 2) := by decide +kernel
theorem dX10_cross_40 : decode cX10_cross 40 = .ok (.goto 10, 3) := by decide +kernel
theorem dX10_cross_43 : decode cX10_cross 43 = .ok (.aload_n 0, 1) := by decide +kernel
theorem dX10_cross_44 : decode cX10_cross 44 = .ok (.aload_n 2, 1) := by decide +kernel
theorem dX10_cross_45 : decode cX10_cross 45 = .ok (.iconst 3, 1) := by decide +kernel
theorem dX10_cross_46 : decode cX10_cross 46 = .ok (.invokevirtual 224, 3) := by decide +kernel
theorem dX10_cross_49 : decode cX10_cross 49 = .ok (.ireturn, 1) := by decide +kernel
theorem dX10_cross_50 : decode cX10_cross 50 = .ok (.aload_n 2, 1) := by decide +kernel
theorem dX10_cross_51 : decode cX10_cross 51 = .ok (.dup, 1) := by decide +kernel
theorem dX10_cross_52 : decode cX10_cross 52 = .ok (.getfield 252, 3) := by decide +kernel
theorem dX10_cross_55 : decode cX10_cross 55 = .ok (.iconst 1, 1) := by decide +kernel
theorem dX10_cross_56 : decode cX10_cross 56 = .ok (.iadd, 1) := by decide +kernel
theorem dX10_cross_57 : decode cX10_cross 57 = .ok (.putfield 252, 3) := by decide +kernel
theorem dX10_cross_60 : decode cX10_cross 60 = .ok (.aload_n 0, 1) := by decide +kernel
theorem dX10_cross_61 : decode cX10_cross 61 = .ok (.getfield 26, 3) := by decide +kernel
theorem dX10_cross_64 : decode cX10_cross 64 = .ok (.aload 4, 2) := by decide +kernel
theorem dX10_cross_66 : decode cX10_cross 66 = .ok (.aload_n 2, 1) := by decide +kernel
theorem dX10_cross_67 : decode cX10_cross 67 = .ok (.invokevirtual 257, 3) := by decide +kernel
theorem dX10_cross_70 : decode cX10_cross 70 = .ok (.iconst 1, 1) := by decide +kernel
theorem dX10_cross_71 : decode cX10_cross 71 = .ok (.invokevirtual 248, 3) := by decide +kernel
theorem dX10_cross_74 : decode cX10_cross 74 = .ok (.iconst 1, 1) := by decide +kernel
theorem dX10_cross_75 : decode cX10_cross 75 = .ok (.ireturn, 1) := by decide +kernel
theorem dX11_init_0 : decode cX11_init 0 = .ok (.aload_n 0, 1) := by decide +kernel
theorem dX11_init_1 : decode cX11_init 1 = .ok (.invokespecial 1, 3) := by decide +kernel
theorem dX11_init_4 : decode cX11_init 4 = .ok (.aload_n 0, 1) := by decide +kernel
theorem dX11_init_5 : decode cX11_init 5 = .ok (.bipush 40, 2) := by decide +kernel
theorem dX11_init_7 : decode cX11_init 7 = .ok (.newarray .int, 2) := by decide +kernel
theorem dX11_init_9 : decode cX11_init 9 = .ok (.putfield 7, 3) := by decide +kernel
theorem dX11_init_12 : decode cX11_init 12 = .ok (.aload_n 0, 1) := by decide +kernel
theorem dX11_init_13 : decode cX11_init 13 = .ok (.bipush 40, 2) := by decide +kernel
theorem dX11_init_15 : decode cX11_init 15 = .ok (.newarray .int, 2) := by decide +kernel
theorem dX11_init_17 : decode cX11_init 17 = .ok (.putfield 13, 3) := by decide +kernel
theorem dX11_init_20 : decode cX11_init 20 = .ok (.aload_n 0, 1) := by decide +kernel
theorem dX11_init_21 : decode cX11_init 21 = .ok (.bipush 40, 2) := by decide +kernel
theorem dX11_init_23 : decode cX11_init 23 = .ok (.newarray .int, 2) := by decide +kernel
theorem dX11_init_25 : decode cX11_init 25 = .ok (.putfield 16, 3) := by decide +kernel
theorem dX11_init_28 : decode cX11_init 28 = .ok (.aload_n 0, 1) := by decide +kernel
theorem dX11_init_29 : decode cX11_init 29 = .ok (.bipush 40, 2) := by decide +kernel
theorem dX11_init_31 : decode cX11_init 31 = .ok (.newarray .int, 2) := by decide +kernel
theorem dX11_init_33 : decode cX11_init 33 = .ok (.putfield 19, 3) := by decide +kernel
theorem dX11_init_36 : decode cX11_init 36 = .ok (.aload_n 0, 1) := by decide +kernel
theorem dX11_init_37 : decode cX11_init 37 = .ok (.sipush 240, 3) := by decide +kernel
theorem dX11_init_40 : decode cX11_init 40 = .ok (.newarray .int, 2) := by decide +kernel
theorem dX11_init_42 : decode cX11_init 42 = .ok (.putfield 22, 3) := by decide +kernel
theorem dX11_init_45 : decode cX11_init 45 = .ok (.aload_n 0, 1) := by decide +kernel
theorem dX11_init_46 : decode cX11_init 46 = .ok (.bipush 40, 2) := by decide +kernel
theorem dX11_init_48 : decode cX11_init 48 = .ok (.newarray .boolean, 2) := by decide +kernel
theorem dX11_init_50 : decode cX11_init 50 = .ok (.putfield 25, 3) := by decide +kernel
theorem dX11_init_53 : decode cX11_init 53 = .ok (.aload_n 0, 1) := by decide +kernel
theorem dX11_init_54 : decode cX11_init 54 = .ok (.bipush 40, 2) := by decide +kernel
theorem dX11_init_56 : decode cX11_init 56 = .ok (.newarray .int, 2) := by decide +kernel
theorem dX11_init_58 : decode cX11_init 58 = .ok (.putfield 29, 3) := by decide +kernel
theorem dX11_init_61 : decode cX11_init 61 = .ok (.aload_n 0, 1) := by decide +kernel
theorem dX11_init_62 : decode cX11_init 62 = .ok (.bipush 6, 2) := by decide +kernel
theorem dX11_init_64 : decode cX11_init 64 = .ok (.newarray .int, 2) := by decide +kernel
theorem dX11_init_66 : decode cX11_init 66 = .ok (.putfield 32, 3) := by decide +kernel
theorem dX11_init_69 : decode cX11_init 69 = .ok (.aload_n 0, 1) := by decide +kernel
theorem dX11_init_70 : decode cX11_init 70 = .ok (.bipush 6, 2) := by decide +kernel
theorem dX11_init_72 : decode cX11_init 72 = .ok (.newarray .int, 2) := by decide +kernel
theorem dX11_init_74 : decode cX11_init 74 = .ok (.putfield 35, 3) := by decide +kernel
theorem dX11_init_77 : decode cX11_init 77 = .ok (.aload_n 0, 1) := by decide +kernel
theorem dX11_init_78 : decode cX11_init 78 = .ok (.iconst 2, 1) := by decide +kernel
theorem dX11_init_79 : decode cX11_init 79 = .ok (.newarray .int, 2) := by decide +kernel
theorem dX11_init_81 : decode cX11_init 81 = .ok (.putfield 38, 3) := by decide +kernel
theorem dX11_init_84 : decode cX11_init 84 = .ok (.aload_n 0, 1) := by decide +kernel
theorem dX11_init_85 : decode cX11_init 85 = .ok (.bipush 80, 2) := by decide +kernel
theorem dX11_init_87 : decode cX11_init 87 = .ok (.newarray .int, 2) := by decide +kernel
theorem dX11_init_89 : decode cX11_init 89 = .ok (.putfield 41, 3) := by decide +kernel
theorem dX11_init_92 : decode cX11_init 92 = .ok (.aload_n 0, 1) := by decide +kernel
theorem dX11_init_93 : decode cX11_init 93 = .ok (.bipush 80, 2) := by decide +kernel
theorem dX11_init_95 : decode cX11_init 95 = .ok (.newarray .int, 2) := by decide +kernel
theorem dX11_init_97 : decode cX11_init 97 = .ok (.putfield 44, 3) := by decide +kernel
theorem dX11_init_100 : decode cX11_init 100 = .ok (.aload_n 0, 1) := by decide +kernel
theorem dX11_init_101 : decode cX11_init 101 = .ok (.bipush 80, 2) := by decide +kernel
theorem dX11_init_103 : decode cX11_init 103 = .ok (.newarray .int, 2) := by decide +kernel
theorem dX11_init_105 : decode cX11_init 105 = .ok (.putfield 47, 3) := by decide +kernel
theorem dX11_init_108 : decode cX11_init 108 = .ok (.aload_n 0, 1) := by decide +kernel
theorem dX11_init_109 : decode cX11_init 109 = .ok (.bipush 82, 2) := by decide +kernel
theorem dX11_init_111 : decode cX11_init 111 = .ok (.newarray .int, 2) := by decide +kernel
theorem dX11_init_113 : decode cX11_init 113 = .ok (.putfield 50, 3) := by decide +kernel
theorem dX11_init_116 : decode cX11_init 116 = .ok (.aload_n 0, 1) := by decide +kernel
theorem dX11_init_117 : decode cX11_init 117 = .ok (.iconst 2, 1) := by decide +kernel
theorem dX11_init_118 : decode cX11_init 118 = .ok (.newarray .int, 2) := by decide +kernel
theorem dX11_init_120 : decode cX11_init 120 = .ok (.putfield 53, 3) := by decide +kernel
theorem dX11_init_123 : decode cX11_init 123 = .ok (.aload_n 0, 1) := by decide +kernel
theorem dX11_init_124 : decode cX11_init 124 = .ok (.sipush 480, 3) := by decide +kernel
theorem dX11_init_127 : decode cX11_init 127 = .ok (.newarray .int, 2) := by decide +kernel
theorem dX11_init_129 : decode cX11_init 129 = .ok (.putfield 56, 3) := by decide +kernel
theorem dX11_init_132 : decode cX11_init 132 = .ok (.aload_n 0, 1) := by decide +kernel
theorem dX11_init_133 : decode cX11_init 133 = .ok (.sipush 480, 3) := by decide +kernel
theorem dX11_init_136 : decode cX11_init 136 = .ok (.newarray .int, 2) := by decide +kernel
theorem dX11_init_138 : decode cX11_init 138 = .ok (.putfield 59, 3) := by decide +kernel
theorem dX11_init_141 : decode cX11_init 141 = .ok (.aload_n 0, 1) := by decide +kernel
theorem dX11_init_142 : decode cX11_init 142 = .ok (.sipush 480, 3) := by decide +kernel
theorem dX11_init_145 : decode cX11_init 145 = .ok (.newarray .boolean, 2) := by decide +kernel
theorem dX11_init_147 : decode cX11_init 147 = .ok (.putfield 62, 3) := by decide +kernel
theorem dX11_init_150 : decode cX11_init 150 = .ok (.aload_n 0, 1) := by decide +kernel
theorem dX11_init_151 : decode cX11_init 151 = .ok (.iconst 2, 1) := by decide +kernel
theorem dX11_init_152 : decode cX11_init 152 = .ok (.newarray .int, 2) := by decide +kernel
theorem dX11_init_154 : decode cX11_init 154 = .ok (.putfield 65, 3) := by decide +kernel
theorem dX11_init_157 : decode cX11_init 157 = .ok (.aload_n 0, 1) := by decide +kernel
theorem dX11_init_158 : decode cX11_init 158 = .ok (.bipush 40, 2) := by decide +kernel
theorem dX11_init_160 : decode cX11_init 160 = .ok (.newarray .int, 2) := by decide +kernel
theorem dX11_init_162 : decode cX11_init 162 = .ok (.putfield 68, 3) := by decide +kernel
theorem dX11_init_165 : decode cX11_init 165 = .ok (.aload_n 0, 1) := by decide +kernel
theorem dX11_init_166 : decode cX11_init 166 = .ok (.bipush 40, 2) := by decide +kernel
theorem dX11_init_168 : decode cX11_init 168 = .ok (.newarray .int, 2) := by decide +kernel
theorem dX11_init_170 : decode cX11_init 170 = .ok (.putfield 71, 3) := by decide +kernel
theorem dX11_init_173 : decode cX11_init 173 = .ok (.aload_n 0, 1) := by decide +kernel
theorem dX11_init_174 : decode cX11_init 174 = .ok (.invokevirtual 74, 3) := by decide +kernel
theorem dX11_init_177 : decode cX11_init 177 = .ok (.return_, 1) := by decide +kernel
theorem dX11_in_0 : decode cX11_in 0 = .ok (.iload_n 0, 1) := by decide +kernel
theorem dX11_in_1 : decode cX11_in 1 = .ok (.iload_n 1, 1) := by decide +kernel
theorem dX11_in_2 : decode cX11_in 2 = .ok (.if_icmp .lt 12, 3) := by decide +kernel
theorem dX11_in_5 : decode cX11_in 5 = .ok (.iload_n 0, 1) := by decide +kernel
theorem dX11_in_6 : decode cX11_in 6 = .ok (.iload_n 2, 1) := by decide +kernel
theorem dX11_in_7 : decode cX11_in 7 = .ok (.if_icmp .gt 7, 3) := by decide +kernel
theorem dX11_in_10 : decode cX11_in 10 = .ok (.iconst 1, 1) := by decide +kernel
theorem dX11_in_11 : decode cX11_in 11 = .ok (.goto 4, 3) := by decide +kernel
theorem dX11_in_14 : decode cX11_in 14 = .ok (.iconst 0, 1) := by decide +kernel
theorem dX11_in_15 : decode cX11_in 15 = .ok (.ireturn, 1) := by decide +kernel
theorem dX11_isThing_0 : decode cX11_isThing 0 = .ok (.iload_n 1, 1) := by decide +kernel
theorem dX11_isThing_1 : decode cX11_isThing 1 = .ok (.iconst 0, 1) := by decide +kernel
theorem dX11_isThing_2 : decode cX11_isThing 2 = .ok (.aload_n 0, 1) := by decide +kernel
theorem dX11_isThing_3 : decode cX11_isThing 3 = .ok (.getfield 77, 3) := by decide +kernel
theorem dX11_isThing_6 : decode cX11_isThing 6 = .ok (.iconst 1, 1) := by decide +kernel
theorem dX11_isThing_7 : decode cX11_isThing 7 = .ok (.isub, 1) := by decide +kernel
theorem dX11_isThing_8 : decode cX11_isThing 8 = .ok (.invokestatic 81, 3) := by decide +kernel
theorem dX11_isThing_11 : decode cX11_isThing 11 = .ok (.ireturn, 1) := by decide +kernel
theorem dX11_thing_0 : decode cX11_thing 0 = .ok (.iload_n 1, 1) := by decide +kernel
theorem dX11_thing_1 : decode cX11_thing 1 = .ok (.iconst 0, 1) := by decide +kernel
theorem dX11_thing_2 : decode cX11_thing 2 = .ok (.bipush 6, 2) := by decide +kernel
theorem dX11_thing_4 : decode cX11_thing 4 = .ok (.invokestatic 81, 3) := by decide +kernel
theorem dX11_thing_7 : decode cX11_thing 7 = .ok (.ifCond .ne 6, 3) := by decide +kernel
theorem dX11_thing_10 : decode cX11_thing 10 = .ok (.ldc 85, 2) := by decide +kernel
theorem dX11_thing_12 : decode cX11_thing 12 = .ok (.ireturn, 1) := by decide +kernel
theorem dX11_thing_13 : decode cX11_thing 13 = .ok (.aload_n 0, 1) := by decide +kernel
theorem dX11_thing_14 : decode cX11_thing 14 = .ok (.getfield 77, 3) := by decide +kernel
theorem dX11_thing_17 : decode cX11_thing 17 = .ok (.bipush 40, 2) := by decide +kernel
theorem dX11_thing_19 : decode cX11_thing 19 = .ok (.if_icmp .ne 6, 3) := by decide +kernel
theorem dX11_thing_22 : decode cX11_thing 22 = .ok (.ldc 86, 2) := by decide +kernel
theorem dX11_thing_24 : decode cX11_thing 24 = .ok (.ireturn, 1) := by decide +kernel
theorem dX11_thing_25 : decode cX11_thing 25 = .ok (.aload_n 0, 1) := by decide +kernel
theorem dX11_thing_26 : decode cX11_thing 26 = .ok (.getfield 77, 3) := by decide +kernel
theorem dX11_thing_29 : decode cX11_thing 29 = .ok (.istore 4, 2) := by decide +kernel
theorem dX11_thing_31 : decode cX11_thing 31 = .ok (.aload_n 0, 1) := by decide +kernel
theorem dX11_thing_32 : decode cX11_thing 32 = .ok (.getfield 7, 3) := by decide +kernel
theorem dX11_thing_35 : decode cX11_thing 35 = .ok (.iload 4, 2) := by decide +kernel
theorem dX11_thing_37 : decode cX11_thing 37 = .ok (.iload_n 1, 1) := by decide +kernel
theorem dX11_thing_38 : decode cX11_thing 38 = .ok (.iastore, 1) := by decide +kernel
theorem dX11_thing_39 : decode cX11_thing 39 = .ok (.aload_n 0, 1) := by decide +kernel
theorem dX11_thing_40 : decode cX11_thing 40 = .ok (.getfield 13, 3) := by decide +kernel
theorem dX11_thing_43 : decode cX11_thing 43 = .ok (.iload 4, 2) := by decide +kernel
theorem dX11_thing_45 : decode cX11_thing 45 = .ok (.iload_n 2, 1) := by decide +kernel
theorem dX11_thing_46 : decode cX11_thing 46 = .ok (.iastore, 1) := by decide +kernel
theorem dX11_thing_47 : decode cX11_thing 47 = .ok (.aload_n 0, 1) := by decide +kernel
theorem dX11_thing_48 : decode cX11_thing 48 = .ok (.getfield 16, 3) := by decide +kernel
theorem dX11_thing_51 : decode cX11_thing 51 = .ok (.iload 4, 2) := by decide +kernel
theorem dX11_thing_53 : decode cX11_thing 53 = .ok (.iload_n 3, 1) := by decide +kernel
theorem dX11_thing_54 : decode cX11_thing 54 = .ok (.iastore, 1) := by decide +kernel
theorem dX11_thing_55 : decode cX11_thing 55 = .ok (.aload_n 0, 1) := by decide +kernel
theorem dX11_thing_56 : decode cX11_thing 56 = .ok (.getfield 19, 3) := by decide +kernel
theorem dX11_thing_59 : decode cX11_thing 59 = .ok (.iload 4, 2) := by decide +kernel
theorem dX11_thing_61 : decode cX11_thing 61 = .ok (.ldc 87, 2) := by decide +kernel
theorem dX11_thing_63 : decode cX11_thing 63 = .ok (.iastore, 1) := by decide +kernel
theorem dX11_thing_64 : decode cX11_thing 64 = .ok (.iconst 0, 1) := by decide +kernel
theorem dX11_thing_65 : decode cX11_thing 65 = .ok (.istore 5, 2) := by decide +kernel
theorem dX11_thing_67 : decode cX11_thing 67 = .ok (.iload 5, 2) := by decide +kernel
theorem dX11_thing_69 : decode cX11_thing 69 = .ok (.bipush 6, 2) := by decide +kernel
theorem dX11_thing_71 : decode cX11_thing 71 = .ok (.if_icmp .ge 24, 3) := by decide +kernel
theorem dX11_thing_74 : decode cX11_thing 74 = .ok (.aload_n 0, 1) := by decide +kernel
theorem dX11_thing_75 : decode cX11_thing 75 = .ok (.getfield 22, 3) := by decide +kernel
theorem dX11_thing_78 : decode cX11_thing 78 = .ok (.bipush 6, 2) := by decide +kernel
theorem dX11_thing_80 : decode cX11_thing 80 = .ok (.iload 4, 2) := by decide +kernel
theorem dX11_thing_82 : decode cX11_thing 82 = .ok (.imul, 1) := by decide +kernel
theorem dX11_thing_83 : decode cX11_thing 83 = .ok (.iload 5, 2) := by decide +kernel
theorem dX11_thing_85 : decode cX11_thing 85 = .ok (.iadd, 1) := by decide +kernel
theorem dX11_thing_86 : decode cX11_thing 86 = .ok (.ldc 87, 2) := by decide +kernel
theorem dX11_thing_88 : decode cX11_thing 88 = .ok (.iastore, 1) := by decide +kernel
theorem dX11_thing_89 : decode cX11_thing 89 = .ok (.iinc 5 1, 3) := by decide +kernel
theorem dX11_thing_92 : decode cX11_thing 92 = .ok (.goto (-25), 3) := by decide +kernel
theorem dX11_thing_95 : decode cX11_thing 95 = .ok (.aload_n 0, 1) := by decide +kernel
theorem dX11_thing_96 : decode cX11_thing 96 = .ok (.getfield 25, 3) := by decide +kernel
theorem dX11_thing_99 : decode cX11_thing 99 = .ok (.iload 4, 2) := by decide +kernel
theorem dX11_thing_101 : decode cX11_thing 101 = .ok (.iconst 0, 1) := by decide +kernel
theorem dX11_thing_102 : decode cX11_thing 102 = .ok (.bastore, 1) := by decide +kernel
theorem dX11_thing_103 : decode cX11_thing 103 = .ok (.aload_n 0, 1) := by decide +kernel
theorem dX11_thing_104 : decode cX11_thing 104 = .ok (.getfield 29, 3) := by decide +kernel
theorem dX11_thing_107 : decode cX11_thing 107 = .ok (.iload 4, 2) := by decide +kernel
theorem dX11_thing_109 : decode cX11_thing 109 = .ok (.iconst 0, 1) := by decide +kernel
theorem dX11_thing_110 : decode cX11_thing 110 = .ok (.iastore, 1) := by decide +kernel
theorem dX11_thing_111 : decode cX11_thing 111 = .ok (.aload_n 0, 1) := by decide +kernel
theorem dX11_thing_112 : decode cX11_thing 112 = .ok (.dup, 1) := by decide +kernel
theorem dX11_thing_113 : decode cX11_thing 113 = .ok (.getfield 77, 3) := by decide +kernel
theorem dX11_thing_116 : decode cX11_thing 116 = .ok (.iconst 1, 1) := by decide +kernel
theorem dX11_thing_117 : decode cX11_thing 117 = .ok (.iadd, 1) := by decide +kernel
theorem dX11_thing_118 : decode cX11_thing 118 = .ok (.putfield 77, 3) := by decide +kernel
theorem dX11_thing_121 : decode cX11_thing 121 = .ok (.iload 4, 2) := by decide +kernel
theorem dX11_thing_123 : decode cX11_thing 123 = .ok (.ireturn, 1) := by decide +kernel
theorem dX11_value_0 : decode cX11_value 0 = .ok (.aload_n 0, 1) := by decide +kernel
theorem dX11_value_1 : decode cX11_value 1 = .ok (.iload_n 1, 1) := by decide +kernel
theorem dX11_value_2 : decode cX11_value 2 = .ok (.invokevirtual 88, 3) := by decide +kernel
theorem dX11_value_5 : decode cX11_value 5 = .ok (.ifCond .ne 6, 3) := by decide +kernel
theorem dX11_value_8 : decode cX11_value 8 = .ok (.ldc 92, 2) := by decide +kernel
theorem dX11_value_10 : decode cX11_value 10 = .ok (.ireturn, 1) := by decide +kernel
theorem dX11_value_11 : decode cX11_value 11 = .ok (.aload_n 0, 1) := by decide +kernel
theorem dX11_value_12 : decode cX11_value 12 = .ok (.getfield 16, 3) := by decide +kernel
theorem dX11_value_15 : decode cX11_value 15 = .ok (.iload_n 1, 1) := by decide +kernel
theorem dX11_value_16 : decode cX11_value 16 = .ok (.iaload, 1) := by decide +kernel
theorem dX11_value_17 : decode cX11_value 17 = .ok (.istore_n 3, 1) := by decide +kernel
theorem dX11_value_18 : decode cX11_value 18 = .ok (.aload_n 0, 1) := by decide +kernel
theorem dX11_value_19 : decode cX11_value 19 = .ok (.getfield 16, 3) := by decide +kernel
theorem dX11_value_22 : decode cX11_value 22 = .ok (.iload_n 1, 1) := by decide +kernel
theorem dX11_value_23 : decode cX11_value 23 = .ok (.iload_n 2, 1) := by decide +kernel
theorem dX11_value_24 : decode cX11_value 24 = .ok (.iastore, 1) := by decide +kernel
theorem dX11_value_25 : decode cX11_value 25 = .ok (.iload_n 3, 1) := by decide +kernel
theorem dX11_value_26 : decode cX11_value 26 = .ok (.ireturn, 1) := by decide +kernel
theorem dX11_key_0 : decode cX11_key 0 = .ok (.aload_n 0, 1) := by decide +kernel
theorem dX11_key_1 : decode cX11_key 1 = .ok (.iload_n 1, 1) := by decide +kernel
theorem dX11_key_2 : decode cX11_key 2 = .ok (.invokevirtual 88, 3) := by decide +kernel
theorem dX11_key_5 : decode cX11_key 5 = .ok (.ifCond .ne 6, 3) := by decide +kernel
theorem dX11_key_8 : decode cX11_key 8 = .ok (.ldc 92, 2) := by decide +kernel
theorem dX11_key_10 : decode cX11_key 10 = .ok (.ireturn, 1) := by decide +kernel
theorem dX11_key_11 : decode cX11_key 11 = .ok (.aload_n 0, 1) := by decide +kernel
theorem dX11_key_12 : decode cX11_key 12 = .ok (.getfield 13, 3) := by decide +kernel
theorem dX11_key_15 : decode cX11_key 15 = .ok (.iload_n 1, 1) := by decide +kernel
theorem dX11_key_16 : decode cX11_key 16 = .ok (.iaload, 1) := by decide +kernel
theorem dX11_key_17 : decode cX11_key 17 = .ok (.istore_n 3, 1) := by decide +kernel
theorem dX11_key_18 : decode cX11_key 18 = .ok (.aload_n 0, 1) := by decide +kernel
theorem dX11_key_19 : decode cX11_key 19 = .ok (.getfield 13, 3) := by decide +kernel
theorem dX11_key_22 : decode cX11_key 22 = .ok (.iload_n 1, 1) := by decide +kernel
theorem dX11_key_23 : decode cX11_key 23 = .ok (.iload_n 2, 1) := by decide +kernel
theorem dX11_key_24 : decode cX11_key 24 = .ok (.iastore, 1) := by decide +kernel
theorem dX11_key_25 : decode cX11_key 25 = .ok (.iload_n 3, 1) := by decide +kernel
theorem dX11_key_26 : decode cX11_key 26 = .ok (.ireturn, 1) := by decide +kernel
theorem dX11_next_0 : decode cX11_next 0 = .ok (.aload_n 0, 1) := by decide +kernel
theorem dX11_next_1 : decode cX11_next 1 = .ok (.iload_n 1, 1) := by decide +kernel
theorem dX11_next_2 : decode cX11_next 2 = .ok (.invokevirtual 88, 3) := by decide +kernel
theorem dX11_next_5 : decode cX11_next 5 = .ok (.ifCond .eq 17, 3) := by decide +kernel
theorem dX11_next_8 : decode cX11_next 8 = .ok (.iload_n 2, 1) := by decide +kernel
theorem dX11_next_9 : decode cX11_next 9 = .ok (.ldc 87, 2) := by decide +kernel
theorem dX11_next_11 : decode cX11_next 11 = .ok (.if_icmp .eq 14, 3) := by decide +kernel
theorem dX11_next_14 : decode cX11_next 14 = .ok (.aload_n 0, 1) := by decide +kernel
theorem dX11_next_15 : decode cX11_next 15 = .ok (.iload_n 2, 1) := by decide +kernel
theorem dX11_next_16 : decode cX11_next 16 = .ok (.invokevirtual 88, 3) := by decide +kernel
theorem dX11_next_19 : decode cX11_next 19 = .ok (.ifCond .ne 6, 3) := by decide +kernel
theorem dX11_next_22 : decode cX11_next 22 = .ok (.ldc 92, 2) := by decide +kernel
theorem dX11_next_24 : decode cX11_next 24 = .ok (.ireturn, 1) := by decide +kernel
theorem dX11_next_25 : decode cX11_next 25 = .ok (.aload_n 0, 1) := by decide +kernel
theorem dX11_next_26 : decode cX11_next 26 = .ok (.getfield 19, 3) := by decide +kernel
theorem dX11_next_29 : decode cX11_next 29 = .ok (.iload_n 1, 1) := by decide +kernel
theorem dX11_next_30 : decode cX11_next 30 = .ok (.iload_n 2, 1) := by decide +kernel
theorem dX11_next_31 : decode cX11_next 31 = .ok (.iastore, 1) := by decide +kernel
theorem dX11_next_32 : decode cX11_next 32 = .ok (.iconst 1, 1) := by decide +kernel
theorem dX11_next_33 : decode cX11_next 33 = .ok (.ireturn, 1) := by decide +kernel
theorem dX11_place_0 : decode cX11_place 0 = .ok (.aload_n 0, 1) := by decide +kernel
theorem dX11_place_1 : decode cX11_place 1 = .ok (.iload_n 1, 1) := by decide +kernel
theorem dX11_place_2 : decode cX11_place 2 = .ok (.invokevirtual 88, 3) := by decide +kernel
theorem dX11_place_5 : decode cX11_place 5 = .ok (.ifCond .eq 17, 3) := by decide +kernel
theorem dX11_place_8 : decode cX11_place 8 = .ok (.iload_n 3, 1) := by decide +kernel
theorem dX11_place_9 : decode cX11_place 9 = .ok (.ldc 87, 2) := by decide +kernel
theorem dX11_place_11 : decode cX11_place 11 = .ok (.if_icmp .eq 14, 3) := by decide +kernel
theorem dX11_place_14 : decode cX11_place 14 = .ok (.aload_n 0, 1) := by decide +kernel
theorem dX11_place_15 : decode cX11_place 15 = .ok (.iload_n 3, 1) := by decide +kernel
theorem dX11_place_16 : decode cX11_place 16 = .ok (.invokevirtual 88, 3) := by decide +kernel
theorem dX11_place_19 : decode cX11_place 19 = .ok (.ifCond .ne 6, 3) := by decide +kernel
theorem dX11_place_22 : decode cX11_place 22 = .ok (.ldc 92, 2) := by decide +kernel
theorem dX11_place_24 : decode cX11_place 24 = .ok (.ireturn, 1) := by decide +kernel
theorem dX11_place_25 : decode cX11_place 25 = .ok (.iload_n 2, 1) := by decide +kernel
theorem dX11_place_26 : decode cX11_place 26 = .ok (.iconst 0, 1) := by decide +kernel
theorem dX11_place_27 : decode cX11_place 27 = .ok (.iconst 5, 1) := by decide +kernel
theorem dX11_place_28 : decode cX11_place 28 = .ok (.invokestatic 81, 3) := by decide +kernel
theorem dX11_place_31 : decode cX11_place 31 = .ok (.ifCond .ne 6, 3) := by decide +kernel
theorem dX11_place_34 : decode cX11_place 34 = .ok (.ldc 85, 2) := by decide +kernel
theorem dX11_place_36 : decode cX11_place 36 = .ok (.ireturn, 1) := by decide +kernel
theorem dX11_place_37 : decode cX11_place 37 = .ok (.aload_n 0, 1) := by decide +kernel
theorem dX11_place_38 : decode cX11_place 38 = .ok (.getfield 22, 3) := by decide +kernel
theorem dX11_place_41 : decode cX11_place 41 = .ok (.bipush 6, 2) := by decide +kernel
theorem dX11_place_43 : decode cX11_place 43 = .ok (.iload_n 1, 1) := by decide +kernel
theorem dX11_place_44 : decode cX11_place 44 = .ok (.imul, 1) := by decide +kernel
theorem dX11_place_45 : decode cX11_place 45 = .ok (.iload_n 2, 1) := by decide +kernel
theorem dX11_place_46 : decode cX11_place 46 = .ok (.iadd, 1) := by decide +kernel
theorem dX11_place_47 : decode cX11_place 47 = .ok (.iload_n 3, 1) := by decide +kernel
theorem dX11_place_48 : decode cX11_place 48 = .ok (.iastore, 1) := by decide +kernel
theorem dX11_place_49 : decode cX11_place 49 = .ok (.iconst 1, 1) := by decide +kernel
theorem dX11_place_50 : decode cX11_place 50 = .ok (.ireturn, 1) := by decide +kernel
theorem dX11_hold_0 : decode cX11_hold 0 = .ok (.aload_n 0, 1) := by decide +kernel
theorem dX11_hold_1 : decode cX11_hold 1 = .ok (.iload_n 1, 1) := by decide +kernel
theorem dX11_hold_2 : decode cX11_hold 2 = .ok (.invokevirtual 88, 3) := by decide +kernel
theorem dX11_hold_5 : decode cX11_hold 5 = .ok (.ifCond .ne 6, 3) := by decide +kernel
theorem dX11_hold_8 : decode cX11_hold 8 = .ok (.ldc 92, 2) := by decide +kernel
theorem dX11_hold_10 : decode cX11_hold 10 = .ok (.ireturn, 1) := by decide +kernel
theorem dX11_hold_11 : decode cX11_hold 11 = .ok (.aload_n 0, 1) := by decide +kernel
theorem dX11_hold_12 : decode cX11_hold 12 = .ok (.getfield 25, 3) := by decide +kernel
theorem dX11_hold_15 : decode cX11_hold 15 = .ok (.iload_n 1, 1) := by decide +kernel
theorem dX11_hold_16 : decode cX11_hold 16 = .ok (.baload, 1) := by decide +kernel
theorem dX11_hold_17 : decode cX11_hold 17 = .ok (.ifCond .eq 7, 3) := by decide +kernel
theorem dX11_hold_20 : decode cX11_hold 20 = .ok (.iconst 1, 1) := by decide +kernel
theorem dX11_hold_21 : decode cX11_hold 21 = .ok (.goto 4, 3) := by decide +kernel
theorem dX11_hold_24 : decode cX11_hold 24 = .ok (.iconst 0, 1) := by decide +kernel
theorem dX11_hold_25 : decode cX11_hold 25 = .ok (.istore_n 3, 1) := by decide +kernel
theorem dX11_hold_26 : decode cX11_hold 26 = .ok (.aload_n 0, 1) := by decide +kernel
theorem dX11_hold_27 : decode cX11_hold 27 = .ok (.getfield 25, 3) := by decide +kernel
theorem dX11_hold_30 : decode cX11_hold 30 = .ok (.iload_n 1, 1) := by decide +kernel
theorem dX11_hold_31 : decode cX11_hold 31 = .ok (.iload_n 2, 1) := by decide +kernel
theorem dX11_hold_32 : decode cX11_hold 32 = .ok (.bastore, 1) := by decide +kernel
theorem dX11_hold_33 : decode cX11_hold 33 = .ok (.iload_n 3, 1) := by decide +kernel
theorem dX11_hold_34 : decode cX11_hold 34 = .ok (.ireturn, 1) := by decide +kernel
theorem dX11_isBridge_0 : decode cX11_isBridge 0 = .ok (.iload_n 1, 1) := by decide +kernel
theorem dX11_isBridge_1 : decode cX11_isBridge 1 = .ok (.ldc 87, 2) := by decide +kernel
theorem dX11_isBridge_3 : decode cX11_isBridge 3 = .ok (.if_icmp .eq 17, 3) := by decide +kernel
theorem dX11_isBridge_6 : decode cX11_isBridge 6 = .ok (.aload_n 0, 1) := by decide +kernel
theorem dX11_isBridge_7 : decode cX11_isBridge 7 = .ok (.getfield 7, 3) := by decide +kernel
theorem dX11_isBridge_10 : decode cX11_isBridge 10 = .ok (.iload_n 1, 1) := by decide +kernel
theorem dX11_isBridge_11 : decode cX11_isBridge 11 = .ok (.iaload, 1) := by decide +kernel
theorem dX11_isBridge_12 : decode cX11_isBridge 12 = .ok (.iconst 2, 1) := by decide +kernel
theorem dX11_isBridge_13 : decode cX11_isBridge 13 = .ok (.if_icmp .ne 7, 3) := by decide +kernel
theorem dX11_isBridge_16 : decode cX11_isBridge 16 = .ok (.iconst 1, 1) := by decide +kernel
theorem dX11_isBridge_17 : decode cX11_isBridge 17 = .ok (.goto 4, 3) := by decide +kernel
theorem dX11_isBridge_20 : decode cX11_isBridge 20 = .ok (.iconst 0, 1) := by decide +kernel
theorem dX11_isBridge_21 : decode cX11_isBridge 21 = .ok (.ireturn, 1) := by decide +kernel
theorem dX11_copy_0 : decode cX11_copy 0 = .ok (.aload_n 0, 1) := by decide +kernel
theorem dX11_copy_1 : decode cX11_copy 1 = .ok (.iload_n 1, 1) := by decide +kernel
theorem dX11_copy_2 : decode cX11_copy 2 = .ok (.invokevirtual 88, 3) := by decide +kernel
theorem dX11_copy_5 : decode cX11_copy 5 = .ok (.ifCond .eq 11, 3) := by decide +kernel
theorem dX11_copy_8 : decode cX11_copy 8 = .ok (.aload_n 0, 1) := by decide +kernel
theorem dX11_copy_9 : decode cX11_copy 9 = .ok (.iload_n 3, 1) := by decide +kernel
theorem dX11_copy_10 : decode cX11_copy 10 = .ok (.invokevirtual 88, 3) := by decide +kernel
theorem dX11_copy_13 : decode cX11_copy 13 = .ok (.ifCond .ne 6, 3) := by decide +kernel
theorem dX11_copy_16 : decode cX11_copy 16 = .ok (.ldc 92, 2) := by decide +kernel
theorem dX11_copy_18 : decode cX11_copy 18 = .ok (.ireturn, 1) := by decide +kernel
theorem dX11_copy_19 : decode cX11_copy 19 = .ok (.iload_n 2, 1) := by decide +kernel
theorem dX11_copy_20 : decode cX11_copy 20 = .ok (.ifCond .lt 52, 3) := by decide +kernel
theorem dX11_copy_23 : decode cX11_copy 23 = .ok (.iload 4, 2) := by decide +kernel
theorem dX11_copy_25 : decode cX11_copy 25 = .ok (.ifCond .lt 47, 3) := by decide +kernel
theorem dX11_copy_28 : decode cX11_copy 28 = .ok (.iload 5, 2) := by decide +kernel
theorem dX11_copy_30 : decode cX11_copy 30 = .ok (.ifCond .lt 42, 3) := by decide +kernel
theorem dX11_copy_33 : decode cX11_copy 33 = .ok (.iload_n 2, 1) := by decide +kernel
theorem dX11_copy_34 : decode cX11_copy 34 = .ok (.bipush 6, 2) := by decide +kernel
theorem dX11_copy_36 : decode cX11_copy 36 = .ok (.if_icmp .gt 36, 3) := by decide +kernel
theorem dX11_copy_39 : decode cX11_copy 39 = .ok (.iload 4, 2) := by decide +kernel
theorem dX11_copy_41 : decode cX11_copy 41 = .ok (.bipush 6, 2) := by decide +kernel
theorem dX11_copy_43 : decode cX11_copy 43 = .ok (.if_icmp .gt 29, 3) := by decide +kernel
theorem dX11_copy_46 : decode cX11_copy 46 = .ok (.iload 5, 2) := by decide +kernel
theorem dX11_copy_48 : decode cX11_copy 48 = .ok (.bipush 6, 2) := by decide +kernel
theorem dX11_copy_50 : decode cX11_copy 50 = .ok (.if_icmp .gt 22, 3) := by decide +kernel
theorem dX11_copy_53 : decode cX11_copy 53 = .ok (.iload_n 2, 1) := by decide +kernel
theorem dX11_copy_54 : decode cX11_copy 54 = .ok (.iload 5, 2) := by decide +kernel
theorem dX11_copy_56 : decode cX11_copy 56 = .ok (.iadd, 1) := by decide +kernel
theorem dX11_copy_57 : decode cX11_copy 57 = .ok (.bipush 6, 2) := by decide +kernel
theorem dX11_copy_59 : decode cX11_copy 59 = .ok (.if_icmp .gt 13, 3) := by decide +kernel
theorem dX11_copy_62 : decode cX11_copy 62 = .ok (.iload 4, 2) := by decide +kernel
theorem dX11_copy_64 : decode cX11_copy 64 = .ok (.iload 5, 2) := by decide +kernel
theorem dX11_copy_66 : decode cX11_copy 66 = .ok (.iadd, 1) := by decide +kernel
theorem dX11_copy_67 : decode cX11_copy 67 = .ok (.bipush 6, 2) := by decide +kernel
theorem dX11_copy_69 : decode cX11_copy 69 = .ok (.if_icmp .le 6, 3) := by decide +kernel
theorem dX11_copy_72 : decode cX11_copy 72 = .ok (.ldc 93, 2) := by decide +kernel
theorem dX11_copy_74 : decode cX11_copy 74 = .ok (.ireturn, 1) := by decide +kernel
theorem dX11_copy_75 : decode cX11_copy 75 = .ok (.iconst 0, 1) := by decide +kernel
theorem dX11_copy_76 : decode cX11_copy 76 = .ok (.istore 6, 2) := by decide +kernel
theorem dX11_copy_78 : decode cX11_copy 78 = .ok (.iload 6, 2) := by decide +kernel
theorem dX11_copy_80 : decode cX11_copy 80 = .ok (.iload 5, 2) := by decide +kernel
theorem dX11_copy_82 : decode cX11_copy 82 = .ok (.if_icmp .ge 30, 3) := by decide +kernel
theorem dX11_copy_85 : decode cX11_copy 85 = .ok (.aload_n 0, 1) := by decide +kernel
theorem dX11_copy_86 : decode cX11_copy 86 = .ok (.getfield 32, 3) := by decide +kernel
theorem dX11_copy_89 : decode cX11_copy 89 = .ok (.iload 6, 2) := by decide +kernel
theorem dX11_copy_91 : decode cX11_copy 91 = .ok (.aload_n 0, 1) := by decide +kernel
theorem dX11_copy_92 : decode cX11_copy 92 = .ok (.getfield 22, 3) := by decide +kernel
theorem dX11_copy_95 : decode cX11_copy 95 = .ok (.bipush 6, 2) := by decide +kernel
theorem dX11_copy_97 : decode cX11_copy 97 = .ok (.iload_n 1, 1) := by decide +kernel
theorem dX11_copy_98 : decode cX11_copy 98 = .ok (.imul, 1) := by decide +kernel
theorem dX11_copy_99 : decode cX11_copy 99 = .ok (.iload_n 2, 1) := by decide +kernel
theorem dX11_copy_100 : decode cX11_copy 100 = .ok (.iadd, 1) := by decide +kernel
theorem dX11_copy_101 : decode cX11_copy 101 = .ok (.iload 6, 2) := by decide +kernel
theorem dX11_copy_103 : decode cX11_copy 103 = .ok (.iadd, 1) := by decide +kernel
theorem dX11_copy_104 : decode cX11_copy 104 = .ok (.iaload, 1) := by decide +kernel
theorem dX11_copy_105 : decode cX11_copy 105 = .ok (.iastore, 1) := by decide +kernel
theorem dX11_copy_106 : decode cX11_copy 106 = .ok (.iinc 6 1, 3) := by decide +kernel
theorem dX11_copy_109 : decode cX11_copy 109 = .ok (.goto (-31), 3) := by decide +kernel
theorem dX11_copy_112 : decode cX11_copy 112 = .ok (.iconst 0, 1) := by decide +kernel
theorem dX11_copy_113 : decode cX11_copy 113 = .ok (.istore 6, 2) := by decide +kernel
theorem dX11_copy_115 : decode cX11_copy 115 = .ok (.iload 6, 2) := by decide +kernel
theorem dX11_copy_117 : decode cX11_copy 117 = .ok (.iload 5, 2) := by decide +kernel
theorem dX11_copy_119 : decode cX11_copy 119 = .ok (.if_icmp .ge 58, 3) := by decide +kernel
theorem dX11_copy_122 : decode cX11_copy 122 = .ok (.aload_n 0, 1) := by decide +kernel
theorem dX11_copy_123 : decode cX11_copy 123 = .ok (.getfield 7, 3) := by decide +kernel
theorem dX11_copy_126 : decode cX11_copy 126 = .ok (.iload_n 3, 1) := by decide +kernel
theorem dX11_copy_127 : decode cX11_copy 127 = .ok (.iaload, 1) := by decide +kernel
theorem dX11_copy_128 : decode cX11_copy 128 = .ok (.iconst 4, 1) := by decide +kernel
theorem dX11_copy_129 : decode cX11_copy 129 = .ok (.if_icmp .ne 20, 3) := by decide +kernel
theorem dX11_copy_132 : decode cX11_copy 132 = .ok (.aload_n 0, 1) := by decide +kernel
theorem dX11_copy_133 : decode cX11_copy 133 = .ok (.aload_n 0, 1) := by decide +kernel
theorem dX11_copy_134 : decode cX11_copy 134 = .ok (.getfield 32, 3) := by decide +kernel
theorem dX11_copy_137 : decode cX11_copy 137 = .ok (.iload 6, 2) := by decide +kernel
theorem dX11_copy_139 : decode cX11_copy 139 = .ok (.iaload, 1) := by decide +kernel
theorem dX11_copy_140 : decode cX11_copy 140 = .ok (.invokevirtual 94, 3) := by decide +kernel
theorem dX11_copy_143 : decode cX11_copy 143 = .ok (.ifCond .eq 6, 3) := by decide +kernel
theorem dX11_copy_146 : decode cX11_copy 146 = .ok (.ldc 97, 2) := by decide +kernel
theorem dX11_copy_148 : decode cX11_copy 148 = .ok (.ireturn, 1) := by decide +kernel
theorem dX11_copy_149 : decode cX11_copy 149 = .ok (.aload_n 0, 1) := by decide +kernel
theorem dX11_copy_150 : decode cX11_copy 150 = .ok (.getfield 22, 3) := by decide +kernel
theorem dX11_copy_153 : decode cX11_copy 153 = .ok (.bipush 6, 2) := by decide +kernel
theorem dX11_copy_155 : decode cX11_copy 155 = .ok (.iload_n 3, 1) := by decide +kernel
theorem dX11_copy_156 : decode cX11_copy 156 = .ok (.imul, 1) := by decide +kernel
theorem dX11_copy_157 : decode cX11_copy 157 = .ok (.iload 4, 2) := by decide +kernel
theorem dX11_copy_159 : decode cX11_copy 159 = .ok (.iadd, 1) := by decide +kernel
theorem dX11_copy_160 : decode cX11_copy 160 = .ok (.iload 6, 2) := by decide +kernel
theorem dX11_copy_162 : decode cX11_copy 162 = .ok (.iadd, 1) := by decide +kernel
theorem dX11_copy_163 : decode cX11_copy 163 = .ok (.aload_n 0, 1) := by decide +kernel
theorem dX11_copy_164 : decode cX11_copy 164 = .ok (.getfield 32, 3) := by decide +kernel
theorem dX11_copy_167 : decode cX11_copy 167 = .ok (.iload 6, 2) := by decide +kernel
theorem dX11_copy_169 : decode cX11_copy 169 = .ok (.iaload, 1) := by decide +kernel
theorem dX11_copy_170 : decode cX11_copy 170 = .ok (.iastore, 1) := by decide +kernel
theorem dX11_copy_171 : decode cX11_copy 171 = .ok (.iinc 6 1, 3) := by decide +kernel
theorem dX11_copy_174 : decode cX11_copy 174 = .ok (.goto (-59), 3) := by decide +kernel
theorem dX11_copy_177 : decode cX11_copy 177 = .ok (.iconst 1, 1) := by decide +kernel
theorem dX11_copy_178 : decode cX11_copy 178 = .ok (.ireturn, 1) := by decide +kernel
theorem dX11_tellKey_0 : decode cX11_tellKey 0 = .ok (.aload_n 0, 1) := by decide +kernel
theorem dX11_tellKey_1 : decode cX11_tellKey 1 = .ok (.aload_n 0, 1) := by decide +kernel
theorem dX11_tellKey_2 : decode cX11_tellKey 2 = .ok (.getfield 13, 3) := by decide +kernel
theorem dX11_tellKey_5 : decode cX11_tellKey 5 = .ok (.iload_n 1, 1) := by decide +kernel
theorem dX11_tellKey_6 : decode cX11_tellKey 6 = .ok (.iaload, 1) := by decide +kernel
theorem dX11_tellKey_7 : decode cX11_tellKey 7 = .ok (.putfield 98, 3) := by decide +kernel
theorem dX11_tellKey_10 : decode cX11_tellKey 10 = .ok (.aload_n 0, 1) := by decide +kernel
theorem dX11_tellKey_11 : decode cX11_tellKey 11 = .ok (.getfield 7, 3) := by decide +kernel
theorem dX11_tellKey_14 : decode cX11_tellKey 14 = .ok (.iload_n 1, 1) := by decide +kernel
theorem dX11_tellKey_15 : decode cX11_tellKey 15 = .ok (.iaload, 1) := by decide +kernel
theorem dX11_tellKey_16 : decode cX11_tellKey 16 = .ok (.bipush 6, 2) := by decide +kernel
theorem dX11_tellKey_18 : decode cX11_tellKey 18 = .ok (.if_icmp .ne 16, 3) := by decide +kernel
theorem dX11_tellKey_21 : decode cX11_tellKey 21 = .ok (.aload_n 0, 1) := by decide +kernel
theorem dX11_tellKey_22 : decode cX11_tellKey 22 = .ok (.getfield 25, 3) := by decide +kernel
theorem dX11_tellKey_25 : decode cX11_tellKey 25 = .ok (.iload_n 1, 1) := by decide +kernel
theorem dX11_tellKey_26 : decode cX11_tellKey 26 = .ok (.baload, 1) := by decide +kernel
theorem dX11_tellKey_27 : decode cX11_tellKey 27 = .ok (.ifCond .ne 7, 3) := by decide +kernel
theorem dX11_tellKey_30 : decode cX11_tellKey 30 = .ok (.iconst 1, 1) := by decide +kernel
theorem dX11_tellKey_31 : decode cX11_tellKey 31 = .ok (.goto 4, 3) := by decide +kernel
theorem dX11_tellKey_34 : decode cX11_tellKey 34 = .ok (.iconst 0, 1) := by decide +kernel
theorem dX11_tellKey_35 : decode cX11_tellKey 35 = .ok (.ireturn, 1) := by decide +kernel
theorem dX11_tellValue_0 : decode cX11_tellValue 0 = .ok (.aload_n 0, 1) := by decide +kernel
theorem dX11_tellValue_1 : decode cX11_tellValue 1 = .ok (.getfield 16, 3) := by decide +kernel
theorem dX11_tellValue_4 : decode cX11_tellValue 4 = .ok (.iload_n 1, 1) := by decide +kernel
theorem dX11_tellValue_5 : decode cX11_tellValue 5 = .ok (.iaload, 1) := by decide +kernel
theorem dX11_tellValue_6 : decode cX11_tellValue 6 = .ok (.istore_n 2, 1) := by decide +kernel
theorem dX11_tellValue_7 : decode cX11_tellValue 7 = .ok (.aload_n 0, 1) := by decide +kernel
theorem dX11_tellValue_8 : decode cX11_tellValue 8 = .ok (.getfield 7, 3) := by decide +kernel
theorem dX11_tellValue_11 : decode cX11_tellValue 11 = .ok (.iload_n 1, 1) := by decide +kernel
theorem dX11_tellValue_12 : decode cX11_tellValue 12 = .ok (.iaload, 1) := by decide +kernel
theorem dX11_tellValue_13 : decode cX11_tellValue 13 = .ok (.iconst 3, 1) := by decide +kernel
theorem dX11_tellValue_14 : decode cX11_tellValue 14 = .ok (.if_icmp .ne 29, 3) := by decide +kernel
theorem dX11_tellValue_17 : decode cX11_tellValue 17 = .ok (.aload_n 0, 1) := by decide +kernel
theorem dX11_tellValue_18 : decode cX11_tellValue 18 = .ok (.iload_n 2, 1) := by decide +kernel
theorem dX11_tellValue_19 : decode cX11_tellValue 19 = .ok (.ifCond .ne 7, 3) := by decide +kernel
theorem dX11_tellValue_22 : decode cX11_tellValue 22 = .ok (.iconst 0, 1) := by decide +kernel
theorem dX11_tellValue_23 : decode cX11_tellValue 23 = .ok (.goto 7, 3) := by decide +kernel
theorem dX11_tellValue_26 : decode cX11_tellValue 26 = .ok (.bipush 100, 2) := by decide +kernel
theorem dX11_tellValue_28 : decode cX11_tellValue 28 = .ok (.iload_n 2, 1) := by decide +kernel
theorem dX11_tellValue_29 : decode cX11_tellValue 29 = .ok (.idiv, 1) := by decide +kernel
theorem dX11_tellValue_30 : decode cX11_tellValue 30 = .ok (.putfield 98, 3) := by decide +kernel
theorem dX11_tellValue_33 : decode cX11_tellValue 33 = .ok (.iload_n 2, 1) := by decide +kernel
theorem dX11_tellValue_34 : decode cX11_tellValue 34 = .ok (.ifCond .ne 7, 3) := by decide +kernel
theorem dX11_tellValue_37 : decode cX11_tellValue 37 = .ok (.iconst 4, 1) := by decide +kernel
theorem dX11_tellValue_38 : decode cX11_tellValue 38 = .ok (.goto 4, 3) := by decide +kernel
theorem dX11_tellValue_41 : decode cX11_tellValue 41 = .ok (.iconst 0, 1) := by decide +kernel
theorem dX11_tellValue_42 : decode cX11_tellValue 42 = .ok (.ireturn, 1) := by decide +kernel
theorem dX11_tellValue_43 : decode cX11_tellValue 43 = .ok (.aload_n 0, 1) := by decide +kernel
theorem dX11_tellValue_44 : decode cX11_tellValue 44 = .ok (.aload_n 0, 1) := by decide +kernel
theorem dX11_tellValue_45 : decode cX11_tellValue 45 = .ok (.getfield 7, 3) := by decide +kernel
theorem dX11_tellValue_48 : decode cX11_tellValue 48 = .ok (.iload_n 1, 1) := by decide +kernel
theorem dX11_tellValue_49 : decode cX11_tellValue 49 = .ok (.iaload, 1) := by decide +kernel
theorem dX11_tellValue_50 : decode cX11_tellValue 50 = .ok (.iconst 1, 1) := by decide +kernel
theorem dX11_tellValue_51 : decode cX11_tellValue 51 = .ok (.if_icmp .ne 9, 3) := by decide +kernel
theorem dX11_tellValue_54 : decode cX11_tellValue 54 = .ok (.iconst 2, 1) := by decide +kernel
theorem dX11_tellValue_55 : decode cX11_tellValue 55 = .ok (.iload_n 2, 1) := by decide +kernel
theorem dX11_tellValue_56 : decode cX11_tellValue 56 = .ok (.imul, 1) := by decide +kernel
theorem dX11_tellValue_57 : decode cX11_tellValue 57 = .ok (.goto 22, 3) := by decide +kernel
theorem dX11_tellValue_60 : decode cX11_tellValue 60 = .ok (.aload_n 0, 1) := by decide +kernel
theorem dX11_tellValue_61 : decode cX11_tellValue 61 = .ok (.getfield 7, 3) := by decide +kernel
theorem dX11_tellValue_64 : decode cX11_tellValue 64 = .ok (.iload_n 1, 1) := by decide +kernel
theorem dX11_tellValue_65 : decode cX11_tellValue 65 = .ok (.iaload, 1) := by decide +kernel
theorem dX11_tellValue_66 : decode cX11_tellValue 66 = .ok (.iconst 4, 1) := by decide +kernel
theorem dX11_tellValue_67 : decode cX11_tellValue 67 = .ok (.if_icmp .ne 11, 3) := by decide +kernel
theorem dX11_tellValue_70 : decode cX11_tellValue 70 = .ok (.iconst 2, 1) := by decide +kernel
theorem dX11_tellValue_71 : decode cX11_tellValue 71 = .ok (.iload_n 2, 1) := by decide +kernel
theorem dX11_tellValue_72 : decode cX11_tellValue 72 = .ok (.imul, 1) := by decide +kernel
theorem dX11_tellValue_73 : decode cX11_tellValue 73 = .ok (.iconst 1, 1) := by decide +kernel
theorem dX11_tellValue_74 : decode cX11_tellValue 74 = .ok (.iadd, 1) := by decide +kernel
theorem dX11_tellValue_75 : decode cX11_tellValue 75 = .ok (.goto 4, 3) := by decide +kernel
theorem dX11_tellValue_78 : decode cX11_tellValue 78 = .ok (.iload_n 2, 1) := by decide +kernel
theorem dX11_tellValue_79 : decode cX11_tellValue 79 = .ok (.putfield 98, 3) := by decide +kernel
theorem dX11_tellValue_82 : decode cX11_tellValue 82 = .ok (.iconst 0, 1) := by decide +kernel
theorem dX11_tellValue_83 : decode cX11_tellValue 83 = .ok (.ireturn, 1) := by decide +kernel
theorem dX11_tellLinks_0 : decode cX11_tellLinks 0 = .ok (.aload_n 0, 1) := by decide +kernel
theorem dX11_tellLinks_1 : decode cX11_tellLinks 1 = .ok (.iconst 0, 1) := by decide +kernel
theorem dX11_tellLinks_2 : decode cX11_tellLinks 2 = .ok (.putfield 101, 3) := by decide +kernel
theorem dX11_tellLinks_5 : decode cX11_tellLinks 5 = .ok (.aload_n 0, 1) := by decide +kernel
theorem dX11_tellLinks_6 : decode cX11_tellLinks 6 = .ok (.getfield 7, 3) := by decide +kernel
theorem dX11_tellLinks_9 : decode cX11_tellLinks 9 = .ok (.iload_n 1, 1) := by decide +kernel
theorem dX11_tellLinks_10 : decode cX11_tellLinks 10 = .ok (.iaload, 1) := by decide +kernel
theorem dX11_tellLinks_11 : decode cX11_tellLinks 11 = .ok (.istore_n 2, 1) := by decide +kernel
theorem dX11_tellLinks_12 : decode cX11_tellLinks 12 = .ok (.iload_n 2, 1) := by decide +kernel
theorem dX11_tellLinks_13 : decode cX11_tellLinks 13 = .ok (.iconst 5, 1) := by decide +kernel
theorem dX11_tellLinks_14 : decode cX11_tellLinks 14 = .ok (.if_icmp .ne 48, 3) := by decide +kernel
theorem dX11_tellLinks_17 : decode cX11_tellLinks 17 = .ok (.aload_n 0, 1) := by decide +kernel
theorem dX11_tellLinks_18 : decode cX11_tellLinks 18 = .ok (.getfield 16, 3) := by decide +kernel
theorem dX11_tellLinks_21 : decode cX11_tellLinks 21 = .ok (.iload_n 1, 1) := by decide +kernel
theorem dX11_tellLinks_22 : decode cX11_tellLinks 22 = .ok (.iaload, 1) := by decide +kernel
theorem dX11_tellLinks_23 : decode cX11_tellLinks 23 = .ok (.iconst 0, 1) := by decide +kernel
theorem dX11_tellLinks_24 : decode cX11_tellLinks 24 = .ok (.iconst 5, 1) := by decide +kernel
theorem dX11_tellLinks_25 : decode cX11_tellLinks 25 = .ok (.invokestatic 81, 3) := by decide +kernel
theorem dX11_tellLinks_28 : decode cX11_tellLinks 28 = .ok (.ifCond .ne 5, 3) := by decide +kernel
theorem dX11_tellLinks_31 : decode cX11_tellLinks 31 = .ok (.iconst 2, 1) := by decide +kernel
theorem dX11_tellLinks_32 : decode cX11_tellLinks 32 = .ok (.ireturn, 1) := by decide +kernel
theorem dX11_tellLinks_33 : decode cX11_tellLinks 33 = .ok (.aload_n 0, 1) := by decide +kernel
theorem dX11_tellLinks_34 : decode cX11_tellLinks 34 = .ok (.getfield 35, 3) := by decide +kernel
theorem dX11_tellLinks_37 : decode cX11_tellLinks 37 = .ok (.iconst 0, 1) := by decide +kernel
theorem dX11_tellLinks_38 : decode cX11_tellLinks 38 = .ok (.aload_n 0, 1) := by decide +kernel
theorem dX11_tellLinks_39 : decode cX11_tellLinks 39 = .ok (.getfield 22, 3) := by decide +kernel
theorem dX11_tellLinks_42 : decode cX11_tellLinks 42 = .ok (.bipush 6, 2) := by decide +kernel
theorem dX11_tellLinks_44 : decode cX11_tellLinks 44 = .ok (.iload_n 1, 1) := by decide +kernel
theorem dX11_tellLinks_45 : decode cX11_tellLinks 45 = .ok (.imul, 1) := by decide +kernel
theorem dX11_tellLinks_46 : decode cX11_tellLinks 46 = .ok (.aload_n 0, 1) := by decide +kernel
theorem dX11_tellLinks_47 : decode cX11_tellLinks 47 = .ok (.getfield 16, 3) := by decide +kernel
theorem dX11_tellLinks_50 : decode cX11_tellLinks 50 = .ok (.iload_n 1, 1) := by decide +kernel
theorem dX11_tellLinks_51 : decode cX11_tellLinks 51 = .ok (.iaload, 1) := by decide +kernel
theorem dX11_tellLinks_52 : decode cX11_tellLinks 52 = .ok (.iadd, 1) := by decide +kernel
theorem dX11_tellLinks_53 : decode cX11_tellLinks 53 = .ok (.iaload, 1) := by decide +kernel
theorem dX11_tellLinks_54 : decode cX11_tellLinks 54 = .ok (.iastore, 1) := by decide +kernel
theorem dX11_tellLinks_55 : decode cX11_tellLinks 55 = .ok (.aload_n 0, 1) := by decide +kernel
theorem dX11_tellLinks_56 : decode cX11_tellLinks 56 = .ok (.iconst 1, 1) := by decide +kernel
theorem dX11_tellLinks_57 : decode cX11_tellLinks 57 = .ok (.putfield 101, 3) := by decide +kernel
theorem dX11_tellLinks_60 : decode cX11_tellLinks 60 = .ok (.iconst 0, 1) := by decide +kernel
theorem dX11_tellLinks_61 : decode cX11_tellLinks 61 = .ok (.ireturn, 1) := by decide +kernel
theorem dX11_tellLinks_62 : decode cX11_tellLinks 62 = .ok (.iload_n 2, 1) := by decide +kernel
theorem dX11_tellLinks_63 : decode cX11_tellLinks 63 = .ok (.iconst 1, 1) := by decide +kernel
theorem dX11_tellLinks_64 : decode cX11_tellLinks 64 = .ok (.if_icmp .eq 8, 3) := by decide +kernel
theorem dX11_tellLinks_67 : decode cX11_tellLinks 67 = .ok (.iload_n 2, 1) := by decide +kernel
theorem dX11_tellLinks_68 : decode cX11_tellLinks 68 = .ok (.iconst 4, 1) := by decide +kernel
theorem dX11_tellLinks_69 : decode cX11_tellLinks 69 = .ok (.if_icmp .ne 73, 3) := by decide +kernel
theorem dX11_tellLinks_72 : decode cX11_tellLinks 72 = .ok (.iconst 0, 1) := by decide +kernel
theorem dX11_tellLinks_73 : decode cX11_tellLinks 73 = .ok (.istore_n 3, 1) := by decide +kernel
theorem dX11_tellLinks_74 : decode cX11_tellLinks 74 = .ok (.iconst 0, 1) := by decide +kernel
theorem dX11_tellLinks_75 : decode cX11_tellLinks 75 = .ok (.istore 4, 2) := by decide +kernel
theorem dX11_tellLinks_77 : decode cX11_tellLinks 77 = .ok (.iload 4, 2) := by decide +kernel
theorem dX11_tellLinks_79 : decode cX11_tellLinks 79 = .ok (.bipush 6, 2) := by decide +kernel
theorem dX11_tellLinks_81 : decode cX11_tellLinks 81 = .ok (.if_icmp .ge 53, 3) := by decide +kernel
theorem dX11_tellLinks_84 : decode cX11_tellLinks 84 = .ok (.aload_n 0, 1) := by decide +kernel
theorem dX11_tellLinks_85 : decode cX11_tellLinks 85 = .ok (.getfield 35, 3) := by decide +kernel
theorem dX11_tellLinks_88 : decode cX11_tellLinks 88 = .ok (.iload 4, 2) := by decide +kernel
theorem dX11_tellLinks_90 : decode cX11_tellLinks 90 = .ok (.aload_n 0, 1) := by decide +kernel
theorem dX11_tellLinks_91 : decode cX11_tellLinks 91 = .ok (.getfield 22, 3) := by decide +kernel
theorem dX11_tellLinks_94 : decode cX11_tellLinks 94 = .ok (.bipush 6, 2) := by decide +kernel
theorem dX11_tellLinks_96 : decode cX11_tellLinks 96 = .ok (.iload_n 1, 1) := by decide +kernel
theorem dX11_tellLinks_97 : decode cX11_tellLinks 97 = .ok (.imul, 1) := by decide +kernel
theorem dX11_tellLinks_98 : decode cX11_tellLinks 98 = .ok (.iload 4, 2) := by decide +kernel
theorem dX11_tellLinks_100 : decode cX11_tellLinks 100 = .ok (.iadd, 1) := by decide +kernel
theorem dX11_tellLinks_101 : decode cX11_tellLinks 101 = .ok (.iaload, 1) := by decide +kernel
theorem dX11_tellLinks_102 : decode cX11_tellLinks 102 = .ok (.iastore, 1) := by decide +kernel
theorem dX11_tellLinks_103 : decode cX11_tellLinks 103 = .ok (.iload_n 2, 1) := by decide +kernel
theorem dX11_tellLinks_104 : decode cX11_tellLinks 104 = .ok (.iconst 4, 1) := by decide +kernel
theorem dX11_tellLinks_105 : decode cX11_tellLinks 105 = .ok (.if_icmp .ne 21, 3) := by decide +kernel
theorem dX11_tellLinks_108 : decode cX11_tellLinks 108 = .ok (.aload_n 0, 1) := by decide +kernel
theorem dX11_tellLinks_109 : decode cX11_tellLinks 109 = .ok (.aload_n 0, 1) := by decide +kernel
theorem dX11_tellLinks_110 : decode cX11_tellLinks 110 = .ok (.getfield 35, 3) := by decide +kernel
theorem dX11_tellLinks_113 : decode cX11_tellLinks 113 = .ok (.iload 4, 2) := by decide +kernel
theorem dX11_tellLinks_115 : decode cX11_tellLinks 115 = .ok (.iaload, 1) := by decide +kernel
theorem dX11_tellLinks_116 : decode cX11_tellLinks 116 = .ok (.invokevirtual 94, 3) := by decide +kernel
theorem dX11_tellLinks_119 : decode cX11_tellLinks 119 = .ok (.ifCond .eq 7, 3) := by decide +kernel
theorem dX11_tellLinks_122 : decode cX11_tellLinks 122 = .ok (.iconst 3, 1) := by decide +kernel
theorem dX11_tellLinks_123 : decode cX11_tellLinks 123 = .ok (.goto 4, 3) := by decide +kernel
theorem dX11_tellLinks_126 : decode cX11_tellLinks 126 = .ok (.iload_n 3, 1) := by decide +kernel
theorem dX11_tellLinks_127 : decode cX11_tellLinks 127 = .ok (.istore_n 3, 1) := by decide +kernel
theorem dX11_tellLinks_128 : decode cX11_tellLinks 128 = .ok (.iinc 4 1, 3) := by decide +kernel
theorem dX11_tellLinks_131 : decode cX11_tellLinks 131 = .ok (.goto (-54), 3) := by decide +kernel
theorem dX11_tellLinks_134 : decode cX11_tellLinks 134 = .ok (.aload_n 0, 1) := by decide +kernel
theorem dX11_tellLinks_135 : decode cX11_tellLinks 135 = .ok (.bipush 6, 2) := by decide +kernel
theorem dX11_tellLinks_137 : decode cX11_tellLinks 137 = .ok (.putfield 101, 3) := by decide +kernel
theorem dX11_tellLinks_140 : decode cX11_tellLinks 140 = .ok (.iload_n 3, 1) := by decide +kernel
theorem dX11_tellLinks_141 : decode cX11_tellLinks 141 = .ok (.ireturn, 1) := by decide +kernel
theorem dX11_tellLinks_142 : decode cX11_tellLinks 142 = .ok (.aload_n 0, 1) := by decide +kernel
theorem dX11_tellLinks_143 : decode cX11_tellLinks 143 = .ok (.getfield 19, 3) := by decide +kernel
theorem dX11_tellLinks_146 : decode cX11_tellLinks 146 = .ok (.iload_n 1, 1) := by decide +kernel
theorem dX11_tellLinks_147 : decode cX11_tellLinks 147 = .ok (.iaload, 1) := by decide +kernel
theorem dX11_tellLinks_148 : decode cX11_tellLinks 148 = .ok (.ldc 87, 2) := by decide +kernel
theorem dX11_tellLinks_150 : decode cX11_tellLinks 150 = .ok (.if_icmp .ne 5, 3) := by decide +kernel
theorem dX11_tellLinks_153 : decode cX11_tellLinks 153 = .ok (.iconst 0, 1) := by decide +kernel
theorem dX11_tellLinks_154 : decode cX11_tellLinks 154 = .ok (.ireturn, 1) := by decide +kernel
theorem dX11_tellLinks_155 : decode cX11_tellLinks 155 = .ok (.aload_n 0, 1) := by decide +kernel
theorem dX11_tellLinks_156 : decode cX11_tellLinks 156 = .ok (.getfield 35, 3) := by decide +kernel
theorem dX11_tellLinks_159 : decode cX11_tellLinks 159 = .ok (.iconst 0, 1) := by decide +kernel
theorem dX11_tellLinks_160 : decode cX11_tellLinks 160 = .ok (.aload_n 0, 1) := by decide +kernel
theorem dX11_tellLinks_161 : decode cX11_tellLinks 161 = .ok (.getfield 19, 3) := by decide +kernel
theorem dX11_tellLinks_164 : decode cX11_tellLinks 164 = .ok (.iload_n 1, 1) := by decide +kernel
theorem dX11_tellLinks_165 : decode cX11_tellLinks 165 = .ok (.iaload, 1) := by decide +kernel
theorem dX11_tellLinks_166 : decode cX11_tellLinks 166 = .ok (.iastore, 1) := by decide +kernel
theorem dX11_tellLinks_167 : decode cX11_tellLinks 167 = .ok (.aload_n 0, 1) := by decide +kernel
theorem dX11_tellLinks_168 : decode cX11_tellLinks 168 = .ok (.iconst 1, 1) := by decide +kernel
theorem dX11_tellLinks_169 : decode cX11_tellLinks 169 = .ok (.putfield 101, 3) := by decide +kernel
theorem dX11_tellLinks_172 : decode cX11_tellLinks 172 = .ok (.aload_n 0, 1) := by decide +kernel
theorem dX11_tellLinks_173 : decode cX11_tellLinks 173 = .ok (.aload_n 0, 1) := by decide +kernel
theorem dX11_tellLinks_174 : decode cX11_tellLinks 174 = .ok (.getfield 19, 3) := by decide +kernel
theorem dX11_tellLinks_177 : decode cX11_tellLinks 177 = .ok (.iload_n 1, 1) := by decide +kernel
theorem dX11_tellLinks_178 : decode cX11_tellLinks 178 = .ok (.iaload, 1) := by decide +kernel
theorem dX11_tellLinks_179 : decode cX11_tellLinks 179 = .ok (.invokevirtual 94, 3) := by decide +kernel
theorem dX11_tellLinks_182 : decode cX11_tellLinks 182 = .ok (.ifCond .eq 7, 3) := by decide +kernel
theorem dX11_tellLinks_185 : decode cX11_tellLinks 185 = .ok (.iconst 3, 1) := by decide +kernel
theorem dX11_tellLinks_186 : decode cX11_tellLinks 186 = .ok (.goto 4, 3) := by decide +kernel
theorem dX11_tellLinks_189 : decode cX11_tellLinks 189 = .ok (.iconst 0, 1) := by decide +kernel
theorem dX11_tellLinks_190 : decode cX11_tellLinks 190 = .ok (.ireturn, 1) := by decide +kernel
theorem dX11_tellEnd_0 : decode cX11_tellEnd 0 = .ok (.aload_n 0, 1) := by decide +kernel
theorem dX11_tellEnd_1 : decode cX11_tellEnd 1 = .ok (.aload_n 0, 1) := by decide +kernel
theorem dX11_tellEnd_2 : decode cX11_tellEnd 2 = .ok (.getfield 22, 3) := by decide +kernel
theorem dX11_tellEnd_5 : decode cX11_tellEnd 5 = .ok (.bipush 6, 2) := by decide +kernel
theorem dX11_tellEnd_7 : decode cX11_tellEnd 7 = .ok (.iload_n 1, 1) := by decide +kernel
theorem dX11_tellEnd_8 : decode cX11_tellEnd 8 = .ok (.imul, 1) := by decide +kernel
theorem dX11_tellEnd_9 : decode cX11_tellEnd 9 = .ok (.iaload, 1) := by decide +kernel
theorem dX11_tellEnd_10 : decode cX11_tellEnd 10 = .ok (.iload_n 2, 1) := by decide +kernel
theorem dX11_tellEnd_11 : decode cX11_tellEnd 11 = .ok (.if_icmp .ne 17, 3) := by decide +kernel
theorem dX11_tellEnd_14 : decode cX11_tellEnd 14 = .ok (.aload_n 0, 1) := by decide +kernel
theorem dX11_tellEnd_15 : decode cX11_tellEnd 15 = .ok (.getfield 22, 3) := by decide +kernel
theorem dX11_tellEnd_18 : decode cX11_tellEnd 18 = .ok (.bipush 6, 2) := by decide +kernel
theorem dX11_tellEnd_20 : decode cX11_tellEnd 20 = .ok (.iload_n 1, 1) := by decide +kernel
theorem dX11_tellEnd_21 : decode cX11_tellEnd 21 = .ok (.imul, 1) := by decide +kernel
theorem dX11_tellEnd_22 : decode cX11_tellEnd 22 = .ok (.iconst 1, 1) := by decide +kernel
theorem dX11_tellEnd_23 : decode cX11_tellEnd 23 = .ok (.iadd, 1) := by decide +kernel
theorem dX11_tellEnd_24 : decode cX11_tellEnd 24 = .ok (.iaload, 1) := by decide +kernel
theorem dX11_tellEnd_25 : decode cX11_tellEnd 25 = .ok (.goto 12, 3) := by decide +kernel
theorem dX11_tellEnd_28 : decode cX11_tellEnd 28 = .ok (.aload_n 0, 1) := by decide +kernel
theorem dX11_tellEnd_29 : decode cX11_tellEnd 29 = .ok (.getfield 22, 3) := by decide +kernel
theorem dX11_tellEnd_32 : decode cX11_tellEnd 32 = .ok (.bipush 6, 2) := by decide +kernel
theorem dX11_tellEnd_34 : decode cX11_tellEnd 34 = .ok (.iload_n 1, 1) := by decide +kernel
theorem dX11_tellEnd_35 : decode cX11_tellEnd 35 = .ok (.imul, 1) := by decide +kernel
theorem dX11_tellEnd_36 : decode cX11_tellEnd 36 = .ok (.iaload, 1) := by decide +kernel
theorem dX11_tellEnd_37 : decode cX11_tellEnd 37 = .ok (.putfield 98, 3) := by decide +kernel
theorem dX11_tellEnd_40 : decode cX11_tellEnd 40 = .ok (.aload_n 0, 1) := by decide +kernel
theorem dX11_tellEnd_41 : decode cX11_tellEnd 41 = .ok (.getfield 98, 3) := by decide +kernel
theorem dX11_tellEnd_44 : decode cX11_tellEnd 44 = .ok (.ldc 87, 2) := by decide +kernel
theorem dX11_tellEnd_46 : decode cX11_tellEnd 46 = .ok (.if_icmp .ne 7, 3) := by decide +kernel
theorem dX11_tellEnd_49 : decode cX11_tellEnd 49 = .ok (.iconst 1, 1) := by decide +kernel
theorem dX11_tellEnd_50 : decode cX11_tellEnd 50 = .ok (.goto 19, 3) := by decide +kernel
theorem dX11_tellEnd_53 : decode cX11_tellEnd 53 = .ok (.aload_n 0, 1) := by decide +kernel
theorem dX11_tellEnd_54 : decode cX11_tellEnd 54 = .ok (.aload_n 0, 1) := by decide +kernel
theorem dX11_tellEnd_55 : decode cX11_tellEnd 55 = .ok (.getfield 98, 3) := by decide +kernel
theorem dX11_tellEnd_58 : decode cX11_tellEnd 58 = .ok (.invokevirtual 94, 3) := by decide +kernel
theorem dX11_tellEnd_61 : decode cX11_tellEnd 61 = .ok (.ifCond .eq 7, 3) := by decide +kernel
theorem dX11_tellEnd_64 : decode cX11_tellEnd 64 = .ok (.iconst 3, 1) := by decide +kernel
theorem dX11_tellEnd_65 : decode cX11_tellEnd 65 = .ok (.goto 4, 3) := by decide +kernel
theorem dX11_tellEnd_68 : decode cX11_tellEnd 68 = .ok (.iconst 0, 1) := by decide +kernel
theorem dX11_tellEnd_69 : decode cX11_tellEnd 69 = .ok (.ireturn, 1) := by decide +kernel
theorem dX11_refuse_0 : decode cX11_refuse 0 = .ok (.aload_n 0, 1) := by decide +kernel
theorem dX11_refuse_1 : decode cX11_refuse 1 = .ok (.iload_n 1, 1) := by decide +kernel
theorem dX11_refuse_2 : decode cX11_refuse 2 = .ok (.putfield 104, 3) := by decide +kernel
theorem dX11_refuse_5 : decode cX11_refuse 5 = .ok (.aload_n 0, 1) := by decide +kernel
theorem dX11_refuse_6 : decode cX11_refuse 6 = .ok (.iload_n 2, 1) := by decide +kernel
theorem dX11_refuse_7 : decode cX11_refuse 7 = .ok (.putfield 107, 3) := by decide +kernel
theorem dX11_refuse_10 : decode cX11_refuse 10 = .ok (.aload_n 0, 1) := by decide +kernel
theorem dX11_refuse_11 : decode cX11_refuse 11 = .ok (.iload_n 3, 1) := by decide +kernel
theorem dX11_refuse_12 : decode cX11_refuse 12 = .ok (.putfield 110, 3) := by decide +kernel
theorem dX11_refuse_15 : decode cX11_refuse 15 = .ok (.aload_n 0, 1) := by decide +kernel
theorem dX11_refuse_16 : decode cX11_refuse 16 = .ok (.dup, 1) := by decide +kernel
theorem dX11_refuse_17 : decode cX11_refuse 17 = .ok (.getfield 113, 3) := by decide +kernel
theorem dX11_refuse_20 : decode cX11_refuse 20 = .ok (.iconst 1, 1) := by decide +kernel
theorem dX11_refuse_21 : decode cX11_refuse 21 = .ok (.iadd, 1) := by decide +kernel
theorem dX11_refuse_22 : decode cX11_refuse 22 = .ok (.putfield 113, 3) := by decide +kernel
theorem dX11_refuse_25 : decode cX11_refuse 25 = .ok (.ldc 116, 2) := by decide +kernel
theorem dX11_refuse_27 : decode cX11_refuse 27 = .ok (.iload_n 3, 1) := by decide +kernel
theorem dX11_refuse_28 : decode cX11_refuse 28 = .ok (.isub, 1) := by decide +kernel
theorem dX11_refuse_29 : decode cX11_refuse 29 = .ok (.ireturn, 1) := by decide +kernel
theorem dX11_found_0 : decode cX11_found 0 = .ok (.aload_n 0, 1) := by decide +kernel
theorem dX11_found_1 : decode cX11_found 1 = .ok (.getfield 44, 3) := by decide +kernel
theorem dX11_found_4 : decode cX11_found 4 = .ok (.bipush 40, 2) := by decide +kernel
theorem dX11_found_6 : decode cX11_found 6 = .ok (.iload_n 1, 1) := by decide +kernel
theorem dX11_found_7 : decode cX11_found 7 = .ok (.imul, 1) := by decide +kernel
theorem dX11_found_8 : decode cX11_found 8 = .ok (.iload_n 2, 1) := by decide +kernel
theorem dX11_found_9 : decode cX11_found 9 = .ok (.iadd, 1) := by decide +kernel
theorem dX11_found_10 : decode cX11_found 10 = .ok (.iaload, 1) := by decide +kernel
theorem dX11_found_11 : decode cX11_found 11 = .ok (.ifCond .ge 47, 3) := by decide +kernel
theorem dX11_found_14 : decode cX11_found 14 = .ok (.aload_n 0, 1) := by decide +kernel
theorem dX11_found_15 : decode cX11_found 15 = .ok (.getfield 44, 3) := by decide +kernel
theorem dX11_found_18 : decode cX11_found 18 = .ok (.bipush 40, 2) := by decide +kernel
theorem dX11_found_20 : decode cX11_found 20 = .ok (.iload_n 1, 1) := by decide +kernel
theorem dX11_found_21 : decode cX11_found 21 = .ok (.imul, 1) := by decide +kernel
theorem dX11_found_22 : decode cX11_found 22 = .ok (.iload_n 2, 1) := by decide +kernel
theorem dX11_found_23 : decode cX11_found 23 = .ok (.iadd, 1) := by decide +kernel
theorem dX11_found_24 : decode cX11_found 24 = .ok (.aload_n 0, 1) := by decide +kernel
theorem dX11_found_25 : decode cX11_found 25 = .ok (.getfield 38, 3) := by decide +kernel
theorem dX11_found_28 : decode cX11_found 28 = .ok (.iload_n 1, 1) := by decide +kernel
theorem dX11_found_29 : decode cX11_found 29 = .ok (.iaload, 1) := by decide +kernel
theorem dX11_found_30 : decode cX11_found 30 = .ok (.iastore, 1) := by decide +kernel
theorem dX11_found_31 : decode cX11_found 31 = .ok (.aload_n 0, 1) := by decide +kernel
theorem dX11_found_32 : decode cX11_found 32 = .ok (.getfield 41, 3) := by decide +kernel
theorem dX11_found_35 : decode cX11_found 35 = .ok (.bipush 40, 2) := by decide +kernel
theorem dX11_found_37 : decode cX11_found 37 = .ok (.iload_n 1, 1) := by decide +kernel
theorem dX11_found_38 : decode cX11_found 38 = .ok (.imul, 1) := by decide +kernel
theorem dX11_found_39 : decode cX11_found 39 = .ok (.aload_n 0, 1) := by decide +kernel
theorem dX11_found_40 : decode cX11_found 40 = .ok (.getfield 38, 3) := by decide +kernel
theorem dX11_found_43 : decode cX11_found 43 = .ok (.iload_n 1, 1) := by decide +kernel
theorem dX11_found_44 : decode cX11_found 44 = .ok (.iaload, 1) := by decide +kernel
theorem dX11_found_45 : decode cX11_found 45 = .ok (.iadd, 1) := by decide +kernel
theorem dX11_found_46 : decode cX11_found 46 = .ok (.iload_n 2, 1) := by decide +kernel
theorem dX11_found_47 : decode cX11_found 47 = .ok (.iastore, 1) := by decide +kernel
theorem dX11_found_48 : decode cX11_found 48 = .ok (.aload_n 0, 1) := by decide +kernel
theorem dX11_found_49 : decode cX11_found 49 = .ok (.getfield 38, 3) := by decide +kernel
theorem dX11_found_52 : decode cX11_found 52 = .ok (.iload_n 1, 1) := by decide +kernel
theorem dX11_found_53 : decode cX11_found 53 = .ok (.dup2, 1) := by decide +kernel
theorem dX11_found_54 : decode cX11_found 54 = .ok (.iaload, 1) := by decide +kernel
theorem dX11_found_55 : decode cX11_found 55 = .ok (.iconst 1, 1) := by decide +kernel
theorem dX11_found_56 : decode cX11_found 56 = .ok (.iadd, 1) := by decide +kernel
theorem dX11_found_57 : decode cX11_found 57 = .ok (.iastore, 1) := by decide +kernel
theorem dX11_found_58 : decode cX11_found 58 = .ok (.aload_n 0, 1) := by decide +kernel
theorem dX11_found_59 : decode cX11_found 59 = .ok (.getfield 44, 3) := by decide +kernel
theorem dX11_found_62 : decode cX11_found 62 = .ok (.bipush 40, 2) := by decide +kernel
theorem dX11_found_64 : decode cX11_found 64 = .ok (.iload_n 1, 1) := by decide +kernel
theorem dX11_found_65 : decode cX11_found 65 = .ok (.imul, 1) := by decide +kernel
theorem dX11_found_66 : decode cX11_found 66 = .ok (.iload_n 2, 1) := by decide +kernel
theorem dX11_found_67 : decode cX11_found 67 = .ok (.iadd, 1) := by decide +kernel
theorem dX11_found_68 : decode cX11_found 68 = .ok (.iaload, 1) := by decide +kernel
theorem dX11_found_69 : decode cX11_found 69 = .ok (.ireturn, 1) := by decide +kernel
theorem dX11_ask_0 : decode cX11_ask 0 = .ok (.aload_n 0, 1) := by decide +kernel
theorem dX11_ask_1 : decode cX11_ask 1 = .ok (.getfield 41, 3) := by decide +kernel
theorem dX11_ask_4 : decode cX11_ask 4 = .ok (.bipush 40, 2) := by decide +kernel
theorem dX11_ask_6 : decode cX11_ask 6 = .ok (.iload_n 1, 1) := by decide +kernel
theorem dX11_ask_7 : decode cX11_ask 7 = .ok (.imul, 1) := by decide +kernel
theorem dX11_ask_8 : decode cX11_ask 8 = .ok (.iload_n 2, 1) := by decide +kernel
theorem dX11_ask_9 : decode cX11_ask 9 = .ok (.iadd, 1) := by decide +kernel
theorem dX11_ask_10 : decode cX11_ask 10 = .ok (.iaload, 1) := by decide +kernel
theorem dX11_ask_11 : decode cX11_ask 11 = .ok (.istore 4, 2) := by decide +kernel
theorem dX11_ask_13 : decode cX11_ask 13 = .ok (.iload_n 3, 1) := by decide +kernel
theorem dX11_ask_14 : decode cX11_ask 14 = .ok (.ifCond .eq 98, 3) := by decide +kernel
theorem dX11_ask_17 : decode cX11_ask 17 = .ok (.aload_n 0, 1) := by decide +kernel
theorem dX11_ask_18 : decode cX11_ask 18 = .ok (.getfield 29, 3) := by decide +kernel
theorem dX11_ask_21 : decode cX11_ask 21 = .ok (.iload 4, 2) := by decide +kernel
theorem dX11_ask_23 : decode cX11_ask 23 = .ok (.dup2, 1) := by decide +kernel
theorem dX11_ask_24 : decode cX11_ask 24 = .ok (.iaload, 1) := by decide +kernel
theorem dX11_ask_25 : decode cX11_ask 25 = .ok (.iconst 1, 1) := by decide +kernel
theorem dX11_ask_26 : decode cX11_ask 26 = .ok (.iadd, 1) := by decide +kernel
theorem dX11_ask_27 : decode cX11_ask 27 = .ok (.iastore, 1) := by decide +kernel
theorem dX11_ask_28 : decode cX11_ask 28 = .ok (.aload_n 0, 1) := by decide +kernel
theorem dX11_ask_29 : decode cX11_ask 29 = .ok (.iload 4, 2) := by decide +kernel
theorem dX11_ask_31 : decode cX11_ask 31 = .ok (.invokevirtual 117, 3) := by decide +kernel
theorem dX11_ask_34 : decode cX11_ask 34 = .ok (.istore 5, 2) := by decide +kernel
theorem dX11_ask_36 : decode cX11_ask 36 = .ok (.iload 5, 2) := by decide +kernel
theorem dX11_ask_38 : decode cX11_ask 38 = .ok (.ifCond .le 14, 3) := by decide +kernel
theorem dX11_ask_41 : decode cX11_ask 41 = .ok (.aload_n 0, 1) := by decide +kernel
theorem dX11_ask_42 : decode cX11_ask 42 = .ok (.iload 4, 2) := by decide +kernel
theorem dX11_ask_44 : decode cX11_ask 44 = .ok (.ldc 87, 2) := by decide +kernel
theorem dX11_ask_46 : decode cX11_ask 46 = .ok (.iload 5, 2) := by decide +kernel
theorem dX11_ask_48 : decode cX11_ask 48 = .ok (.invokevirtual 121, 3) := by decide +kernel
theorem dX11_ask_51 : decode cX11_ask 51 = .ok (.ireturn, 1) := by decide +kernel
theorem dX11_ask_52 : decode cX11_ask 52 = .ok (.aload_n 0, 1) := by decide +kernel
theorem dX11_ask_53 : decode cX11_ask 53 = .ok (.getfield 68, 3) := by decide +kernel
theorem dX11_ask_56 : decode cX11_ask 56 = .ok (.iload_n 2, 1) := by decide +kernel
theorem dX11_ask_57 : decode cX11_ask 57 = .ok (.aload_n 0, 1) := by decide +kernel
theorem dX11_ask_58 : decode cX11_ask 58 = .ok (.getfield 98, 3) := by decide +kernel
theorem dX11_ask_61 : decode cX11_ask 61 = .ok (.iastore, 1) := by decide +kernel
theorem dX11_ask_62 : decode cX11_ask 62 = .ok (.iconst 0, 1) := by decide +kernel
theorem dX11_ask_63 : decode cX11_ask 63 = .ok (.istore 6, 2) := by decide +kernel
theorem dX11_ask_65 : decode cX11_ask 65 = .ok (.iload 6, 2) := by decide +kernel
theorem dX11_ask_67 : decode cX11_ask 67 = .ok (.iload_n 2, 1) := by decide +kernel
theorem dX11_ask_68 : decode cX11_ask 68 = .ok (.if_icmp .ge 44, 3) := by decide +kernel
theorem dX11_ask_71 : decode cX11_ask 71 = .ok (.aload_n 0, 1) := by decide +kernel
theorem dX11_ask_72 : decode cX11_ask 72 = .ok (.getfield 68, 3) := by decide +kernel
theorem dX11_ask_75 : decode cX11_ask 75 = .ok (.iload 6, 2) := by decide +kernel
theorem dX11_ask_77 : decode cX11_ask 77 = .ok (.iaload, 1) := by decide +kernel
theorem dX11_ask_78 : decode cX11_ask 78 = .ok (.aload_n 0, 1) := by decide +kernel
theorem dX11_ask_79 : decode cX11_ask 79 = .ok (.getfield 98, 3) := by decide +kernel
theorem dX11_ask_82 : decode cX11_ask 82 = .ok (.if_icmp .ne 24, 3) := by decide +kernel
theorem dX11_ask_85 : decode cX11_ask 85 = .ok (.aload_n 0, 1) := by decide +kernel
theorem dX11_ask_86 : decode cX11_ask 86 = .ok (.iload 4, 2) := by decide +kernel
theorem dX11_ask_88 : decode cX11_ask 88 = .ok (.aload_n 0, 1) := by decide +kernel
theorem dX11_ask_89 : decode cX11_ask 89 = .ok (.getfield 41, 3) := by decide +kernel
theorem dX11_ask_92 : decode cX11_ask 92 = .ok (.bipush 40, 2) := by decide +kernel
theorem dX11_ask_94 : decode cX11_ask 94 = .ok (.iload_n 1, 1) := by decide +kernel
theorem dX11_ask_95 : decode cX11_ask 95 = .ok (.imul, 1) := by decide +kernel
theorem dX11_ask_96 : decode cX11_ask 96 = .ok (.iload 6, 2) := by decide +kernel
theorem dX11_ask_98 : decode cX11_ask 98 = .ok (.iadd, 1) := by decide +kernel
theorem dX11_ask_99 : decode cX11_ask 99 = .ok (.iaload, 1) := by decide +kernel
theorem dX11_ask_100 : decode cX11_ask 100 = .ok (.bipush 6, 2) := by decide +kernel
theorem dX11_ask_102 : decode cX11_ask 102 = .ok (.invokevirtual 121, 3) := by decide +kernel
theorem dX11_ask_105 : decode cX11_ask 105 = .ok (.ireturn, 1) := by decide +kernel
theorem dX11_ask_106 : decode cX11_ask 106 = .ok (.iinc 6 1, 3) := by decide +kernel
theorem dX11_ask_109 : decode cX11_ask 109 = .ok (.goto (-44), 3) := by decide +kernel
theorem dX11_ask_112 : decode cX11_ask 112 = .ok (.aload_n 0, 1) := by decide +kernel
theorem dX11_ask_113 : decode cX11_ask 113 = .ok (.getfield 29, 3) := by decide +kernel
theorem dX11_ask_116 : decode cX11_ask 116 = .ok (.iload 4, 2) := by decide +kernel
theorem dX11_ask_118 : decode cX11_ask 118 = .ok (.dup2, 1) := by decide +kernel
theorem dX11_ask_119 : decode cX11_ask 119 = .ok (.iaload, 1) := by decide +kernel
theorem dX11_ask_120 : decode cX11_ask 120 = .ok (.iconst 1, 1) := by decide +kernel
theorem dX11_ask_121 : decode cX11_ask 121 = .ok (.iadd, 1) := by decide +kernel
theorem dX11_ask_122 : decode cX11_ask 122 = .ok (.iastore, 1) := by decide +kernel
theorem dX11_ask_123 : decode cX11_ask 123 = .ok (.aload_n 0, 1) := by decide +kernel
theorem dX11_ask_124 : decode cX11_ask 124 = .ok (.iload 4, 2) := by decide +kernel
theorem dX11_ask_126 : decode cX11_ask 126 = .ok (.invokevirtual 125, 3) := by decide +kernel
theorem dX11_ask_129 : decode cX11_ask 129 = .ok (.istore 5, 2) := by decide +kernel
theorem dX11_ask_131 : decode cX11_ask 131 = .ok (.iload 5, 2) := by decide +kernel
theorem dX11_ask_133 : decode cX11_ask 133 = .ok (.ifCond .le 14, 3) := by decide +kernel
theorem dX11_ask_136 : decode cX11_ask 136 = .ok (.aload_n 0, 1) := by decide +kernel
theorem dX11_ask_137 : decode cX11_ask 137 = .ok (.iload 4, 2) := by decide +kernel
theorem dX11_ask_139 : decode cX11_ask 139 = .ok (.ldc 87, 2) := by decide +kernel
theorem dX11_ask_141 : decode cX11_ask 141 = .ok (.iload 5, 2) := by decide +kernel
theorem dX11_ask_143 : decode cX11_ask 143 = .ok (.invokevirtual 121, 3) := by decide +kernel
theorem dX11_ask_146 : decode cX11_ask 146 = .ok (.ireturn, 1) := by decide +kernel
theorem dX11_ask_147 : decode cX11_ask 147 = .ok (.aload_n 0, 1) := by decide +kernel
theorem dX11_ask_148 : decode cX11_ask 148 = .ok (.getfield 47, 3) := by decide +kernel
theorem dX11_ask_151 : decode cX11_ask 151 = .ok (.bipush 40, 2) := by decide +kernel
theorem dX11_ask_153 : decode cX11_ask 153 = .ok (.iload_n 1, 1) := by decide +kernel
theorem dX11_ask_154 : decode cX11_ask 154 = .ok (.imul, 1) := by decide +kernel
theorem dX11_ask_155 : decode cX11_ask 155 = .ok (.iload_n 2, 1) := by decide +kernel
theorem dX11_ask_156 : decode cX11_ask 156 = .ok (.iadd, 1) := by decide +kernel
theorem dX11_ask_157 : decode cX11_ask 157 = .ok (.aload_n 0, 1) := by decide +kernel
theorem dX11_ask_158 : decode cX11_ask 158 = .ok (.getfield 98, 3) := by decide +kernel
theorem dX11_ask_161 : decode cX11_ask 161 = .ok (.iastore, 1) := by decide +kernel
theorem dX11_ask_162 : decode cX11_ask 162 = .ok (.aload_n 0, 1) := by decide +kernel
theorem dX11_ask_163 : decode cX11_ask 163 = .ok (.getfield 29, 3) := by decide +kernel
theorem dX11_ask_166 : decode cX11_ask 166 = .ok (.iload 4, 2) := by decide +kernel
theorem dX11_ask_168 : decode cX11_ask 168 = .ok (.dup2, 1) := by decide +kernel
theorem dX11_ask_169 : decode cX11_ask 169 = .ok (.iaload, 1) := by decide +kernel
theorem dX11_ask_170 : decode cX11_ask 170 = .ok (.iconst 1, 1) := by decide +kernel
theorem dX11_ask_171 : decode cX11_ask 171 = .ok (.iadd, 1) := by decide +kernel
theorem dX11_ask_172 : decode cX11_ask 172 = .ok (.iastore, 1) := by decide +kernel
theorem dX11_ask_173 : decode cX11_ask 173 = .ok (.aload_n 0, 1) := by decide +kernel
theorem dX11_ask_174 : decode cX11_ask 174 = .ok (.iload 4, 2) := by decide +kernel
theorem dX11_ask_176 : decode cX11_ask 176 = .ok (.invokevirtual 128, 3) := by decide +kernel
theorem dX11_ask_179 : decode cX11_ask 179 = .ok (.istore 5, 2) := by decide +kernel
theorem dX11_ask_181 : decode cX11_ask 181 = .ok (.iload 5, 2) := by decide +kernel
theorem dX11_ask_183 : decode cX11_ask 183 = .ok (.ifCond .le 14, 3) := by decide +kernel
theorem dX11_ask_186 : decode cX11_ask 186 = .ok (.aload_n 0, 1) := by decide +kernel
theorem dX11_ask_187 : decode cX11_ask 187 = .ok (.iload 4, 2) := by decide +kernel
theorem dX11_ask_189 : decode cX11_ask 189 = .ok (.ldc 87, 2) := by decide +kernel
theorem dX11_ask_191 : decode cX11_ask 191 = .ok (.iload 5, 2) := by decide +kernel
theorem dX11_ask_193 : decode cX11_ask 193 = .ok (.invokevirtual 121, 3) := by decide +kernel
theorem dX11_ask_196 : decode cX11_ask 196 = .ok (.ireturn, 1) := by decide +kernel
theorem dX11_ask_197 : decode cX11_ask 197 = .ok (.aload_n 0, 1) := by decide +kernel
theorem dX11_ask_198 : decode cX11_ask 198 = .ok (.getfield 50, 3) := by decide +kernel
theorem dX11_ask_201 : decode cX11_ask 201 = .ok (.bipush 41, 2) := by decide +kernel
theorem dX11_ask_203 : decode cX11_ask 203 = .ok (.iload_n 1, 1) := by decide +kernel
theorem dX11_ask_204 : decode cX11_ask 204 = .ok (.imul, 1) := by decide +kernel
theorem dX11_ask_205 : decode cX11_ask 205 = .ok (.iload_n 2, 1) := by decide +kernel
theorem dX11_ask_206 : decode cX11_ask 206 = .ok (.iadd, 1) := by decide +kernel
theorem dX11_ask_207 : decode cX11_ask 207 = .ok (.aload_n 0, 1) := by decide +kernel
theorem dX11_ask_208 : decode cX11_ask 208 = .ok (.getfield 53, 3) := by decide +kernel
theorem dX11_ask_211 : decode cX11_ask 211 = .ok (.iload_n 1, 1) := by decide +kernel
theorem dX11_ask_212 : decode cX11_ask 212 = .ok (.iaload, 1) := by decide +kernel
theorem dX11_ask_213 : decode cX11_ask 213 = .ok (.iastore, 1) := by decide +kernel
theorem dX11_ask_214 : decode cX11_ask 214 = .ok (.aload_n 0, 1) := by decide +kernel
theorem dX11_ask_215 : decode cX11_ask 215 = .ok (.iload_n 1, 1) := by decide +kernel
theorem dX11_ask_216 : decode cX11_ask 216 = .ok (.iload 4, 2) := by decide +kernel
theorem dX11_ask_218 : decode cX11_ask 218 = .ok (.invokevirtual 131, 3) := by decide +kernel
theorem dX11_ask_221 : decode cX11_ask 221 = .ok (.ireturn, 1) := by decide +kernel
theorem dX11_arcsOf_0 : decode cX11_arcsOf 0 = .ok (.iconst 0, 1) := by decide +kernel
theorem dX11_arcsOf_1 : decode cX11_arcsOf 1 = .ok (.istore_n 3, 1) := by decide +kernel
theorem dX11_arcsOf_2 : decode cX11_arcsOf 2 = .ok (.iload_n 3, 1) := by decide +kernel
theorem dX11_arcsOf_3 : decode cX11_arcsOf 3 = .ok (.aload_n 0, 1) := by decide +kernel
theorem dX11_arcsOf_4 : decode cX11_arcsOf 4 = .ok (.getfield 101, 3) := by decide +kernel
theorem dX11_arcsOf_7 : decode cX11_arcsOf 7 = .ok (.if_icmp .ge 192, 3) := by decide +kernel
theorem dX11_arcsOf_10 : decode cX11_arcsOf 10 = .ok (.aload_n 0, 1) := by decide +kernel
theorem dX11_arcsOf_11 : decode cX11_arcsOf 11 = .ok (.getfield 35, 3) := by decide +kernel
theorem dX11_arcsOf_14 : decode cX11_arcsOf 14 = .ok (.iload_n 3, 1) := by decide +kernel
theorem dX11_arcsOf_15 : decode cX11_arcsOf 15 = .ok (.iaload, 1) := by decide +kernel
theorem dX11_arcsOf_16 : decode cX11_arcsOf 16 = .ok (.istore 4, 2) := by decide +kernel
theorem dX11_arcsOf_18 : decode cX11_arcsOf 18 = .ok (.iload 4, 2) := by decide +kernel
theorem dX11_arcsOf_20 : decode cX11_arcsOf 20 = .ok (.ldc 87, 2) := by decide +kernel
theorem dX11_arcsOf_22 : decode cX11_arcsOf 22 = .ok (.if_icmp .ne 16, 3) := by decide +kernel
theorem dX11_arcsOf_25 : decode cX11_arcsOf 25 = .ok (.aload_n 0, 1) := by decide +kernel
theorem dX11_arcsOf_26 : decode cX11_arcsOf 26 = .ok (.getfield 65, 3) := by decide +kernel
theorem dX11_arcsOf_29 : decode cX11_arcsOf 29 = .ok (.iload_n 1, 1) := by decide +kernel
theorem dX11_arcsOf_30 : decode cX11_arcsOf 30 = .ok (.dup2, 1) := by decide +kernel
theorem dX11_arcsOf_31 : decode cX11_arcsOf 31 = .ok (.iaload, 1) := by decide +kernel
theorem dX11_arcsOf_32 : decode cX11_arcsOf 32 = .ok (.iconst 1, 1) := by decide +kernel
theorem dX11_arcsOf_33 : decode cX11_arcsOf 33 = .ok (.iadd, 1) := by decide +kernel
theorem dX11_arcsOf_34 : decode cX11_arcsOf 34 = .ok (.iastore, 1) := by decide +kernel
theorem dX11_arcsOf_35 : decode cX11_arcsOf 35 = .ok (.goto 158, 3) := by decide +kernel
theorem dX11_arcsOf_38 : decode cX11_arcsOf 38 = .ok (.iload 4, 2) := by decide +kernel
theorem dX11_arcsOf_40 : decode cX11_arcsOf 40 = .ok (.istore 5, 2) := by decide +kernel
theorem dX11_arcsOf_42 : decode cX11_arcsOf 42 = .ok (.iconst 1, 1) := by decide +kernel
theorem dX11_arcsOf_43 : decode cX11_arcsOf 43 = .ok (.istore 6, 2) := by decide +kernel
theorem dX11_arcsOf_45 : decode cX11_arcsOf 45 = .ok (.aload_n 0, 1) := by decide +kernel
theorem dX11_arcsOf_46 : decode cX11_arcsOf 46 = .ok (.getfield 7, 3) := by decide +kernel
theorem dX11_arcsOf_49 : decode cX11_arcsOf 49 = .ok (.iload 4, 2) := by decide +kernel
theorem dX11_arcsOf_51 : decode cX11_arcsOf 51 = .ok (.iaload, 1) := by decide +kernel
theorem dX11_arcsOf_52 : decode cX11_arcsOf 52 = .ok (.iconst 2, 1) := by decide +kernel
theorem dX11_arcsOf_53 : decode cX11_arcsOf 53 = .ok (.if_icmp .ne 70, 3) := by decide +kernel
theorem dX11_arcsOf_56 : decode cX11_arcsOf 56 = .ok (.aload_n 0, 1) := by decide +kernel
theorem dX11_arcsOf_57 : decode cX11_arcsOf 57 = .ok (.getfield 29, 3) := by decide +kernel
theorem dX11_arcsOf_60 : decode cX11_arcsOf 60 = .ok (.iload 4, 2) := by decide +kernel
theorem dX11_arcsOf_62 : decode cX11_arcsOf 62 = .ok (.dup2, 1) := by decide +kernel
theorem dX11_arcsOf_63 : decode cX11_arcsOf 63 = .ok (.iaload, 1) := by decide +kernel
theorem dX11_arcsOf_64 : decode cX11_arcsOf 64 = .ok (.iconst 1, 1) := by decide +kernel
theorem dX11_arcsOf_65 : decode cX11_arcsOf 65 = .ok (.iadd, 1) := by decide +kernel
theorem dX11_arcsOf_66 : decode cX11_arcsOf 66 = .ok (.iastore, 1) := by decide +kernel
theorem dX11_arcsOf_67 : decode cX11_arcsOf 67 = .ok (.aload_n 0, 1) := by decide +kernel
theorem dX11_arcsOf_68 : decode cX11_arcsOf 68 = .ok (.iload 4, 2) := by decide +kernel
theorem dX11_arcsOf_70 : decode cX11_arcsOf 70 = .ok (.iload_n 2, 1) := by decide +kernel
theorem dX11_arcsOf_71 : decode cX11_arcsOf 71 = .ok (.invokevirtual 135, 3) := by decide +kernel
theorem dX11_arcsOf_74 : decode cX11_arcsOf 74 = .ok (.istore 7, 2) := by decide +kernel
theorem dX11_arcsOf_76 : decode cX11_arcsOf 76 = .ok (.iload 7, 2) := by decide +kernel
theorem dX11_arcsOf_78 : decode cX11_arcsOf 78 = .ok (.ifCond .le 14, 3) := by decide +kernel
theorem dX11_arcsOf_81 : decode cX11_arcsOf 81 = .ok (.aload_n 0, 1) := by decide +kernel
theorem dX11_arcsOf_82 : decode cX11_arcsOf 82 = .ok (.iload 4, 2) := by decide +kernel
theorem dX11_arcsOf_84 : decode cX11_arcsOf 84 = .ok (.ldc 87, 2) := by decide +kernel
theorem dX11_arcsOf_86 : decode cX11_arcsOf 86 = .ok (.iload 7, 2) := by decide +kernel
theorem dX11_arcsOf_88 : decode cX11_arcsOf 88 = .ok (.invokevirtual 121, 3) := by decide +kernel
theorem dX11_arcsOf_91 : decode cX11_arcsOf 91 = .ok (.ireturn, 1) := by decide +kernel
theorem dX11_arcsOf_92 : decode cX11_arcsOf 92 = .ok (.aload_n 0, 1) := by decide +kernel
theorem dX11_arcsOf_93 : decode cX11_arcsOf 93 = .ok (.getfield 98, 3) := by decide +kernel
theorem dX11_arcsOf_96 : decode cX11_arcsOf 96 = .ok (.istore 5, 2) := by decide +kernel
theorem dX11_arcsOf_98 : decode cX11_arcsOf 98 = .ok (.aload_n 0, 1) := by decide +kernel
theorem dX11_arcsOf_99 : decode cX11_arcsOf 99 = .ok (.getfield 29, 3) := by decide +kernel
theorem dX11_arcsOf_102 : decode cX11_arcsOf 102 = .ok (.iload 4, 2) := by decide +kernel
theorem dX11_arcsOf_104 : decode cX11_arcsOf 104 = .ok (.dup2, 1) := by decide +kernel
theorem dX11_arcsOf_105 : decode cX11_arcsOf 105 = .ok (.iaload, 1) := by decide +kernel
theorem dX11_arcsOf_106 : decode cX11_arcsOf 106 = .ok (.iconst 1, 1) := by decide +kernel
theorem dX11_arcsOf_107 : decode cX11_arcsOf 107 = .ok (.iadd, 1) := by decide +kernel
theorem dX11_arcsOf_108 : decode cX11_arcsOf 108 = .ok (.iastore, 1) := by decide +kernel
theorem dX11_arcsOf_109 : decode cX11_arcsOf 109 = .ok (.aload_n 0, 1) := by decide +kernel
theorem dX11_arcsOf_110 : decode cX11_arcsOf 110 = .ok (.iload 4, 2) := by decide +kernel
theorem dX11_arcsOf_112 : decode cX11_arcsOf 112 = .ok (.invokevirtual 125, 3) := by decide +kernel
theorem dX11_arcsOf_115 : decode cX11_arcsOf 115 = .ok (.istore 7, 2) := by decide +kernel
theorem dX11_arcsOf_117 : decode cX11_arcsOf 117 = .ok (.aload_n 0, 1) := by decide +kernel
theorem dX11_arcsOf_118 : decode cX11_arcsOf 118 = .ok (.getfield 98, 3) := by decide +kernel
theorem dX11_arcsOf_121 : decode cX11_arcsOf 121 = .ok (.istore 6, 2) := by decide +kernel
theorem dX11_arcsOf_123 : decode cX11_arcsOf 123 = .ok (.sipush 240, 3) := by decide +kernel
theorem dX11_arcsOf_126 : decode cX11_arcsOf 126 = .ok (.iload_n 1, 1) := by decide +kernel
theorem dX11_arcsOf_127 : decode cX11_arcsOf 127 = .ok (.imul, 1) := by decide +kernel
theorem dX11_arcsOf_128 : decode cX11_arcsOf 128 = .ok (.aload_n 0, 1) := by decide +kernel
theorem dX11_arcsOf_129 : decode cX11_arcsOf 129 = .ok (.getfield 53, 3) := by decide +kernel
theorem dX11_arcsOf_132 : decode cX11_arcsOf 132 = .ok (.iload_n 1, 1) := by decide +kernel
theorem dX11_arcsOf_133 : decode cX11_arcsOf 133 = .ok (.iaload, 1) := by decide +kernel
theorem dX11_arcsOf_134 : decode cX11_arcsOf 134 = .ok (.iadd, 1) := by decide +kernel
theorem dX11_arcsOf_135 : decode cX11_arcsOf 135 = .ok (.istore 7, 2) := by decide +kernel
theorem dX11_arcsOf_137 : decode cX11_arcsOf 137 = .ok (.aload_n 0, 1) := by decide +kernel
theorem dX11_arcsOf_138 : decode cX11_arcsOf 138 = .ok (.getfield 56, 3) := by decide +kernel
theorem dX11_arcsOf_141 : decode cX11_arcsOf 141 = .ok (.iload 7, 2) := by decide +kernel
theorem dX11_arcsOf_143 : decode cX11_arcsOf 143 = .ok (.aload_n 0, 1) := by decide +kernel
theorem dX11_arcsOf_144 : decode cX11_arcsOf 144 = .ok (.iload_n 1, 1) := by decide +kernel
theorem dX11_arcsOf_145 : decode cX11_arcsOf 145 = .ok (.iload 5, 2) := by decide +kernel
theorem dX11_arcsOf_147 : decode cX11_arcsOf 147 = .ok (.invokevirtual 138, 3) := by decide +kernel
theorem dX11_arcsOf_150 : decode cX11_arcsOf 150 = .ok (.iastore, 1) := by decide +kernel
theorem dX11_arcsOf_151 : decode cX11_arcsOf 151 = .ok (.aload_n 0, 1) := by decide +kernel
theorem dX11_arcsOf_152 : decode cX11_arcsOf 152 = .ok (.getfield 59, 3) := by decide +kernel
theorem dX11_arcsOf_155 : decode cX11_arcsOf 155 = .ok (.iload 7, 2) := by decide +kernel
theorem dX11_arcsOf_157 : decode cX11_arcsOf 157 = .ok (.iload 6, 2) := by decide +kernel
theorem dX11_arcsOf_159 : decode cX11_arcsOf 159 = .ok (.iastore, 1) := by decide +kernel
theorem dX11_arcsOf_160 : decode cX11_arcsOf 160 = .ok (.aload_n 0, 1) := by decide +kernel
theorem dX11_arcsOf_161 : decode cX11_arcsOf 161 = .ok (.getfield 62, 3) := by decide +kernel
theorem dX11_arcsOf_164 : decode cX11_arcsOf 164 = .ok (.iload 7, 2) := by decide +kernel
theorem dX11_arcsOf_166 : decode cX11_arcsOf 166 = .ok (.aload_n 0, 1) := by decide +kernel
theorem dX11_arcsOf_167 : decode cX11_arcsOf 167 = .ok (.getfield 7, 3) := by decide +kernel
theorem dX11_arcsOf_170 : decode cX11_arcsOf 170 = .ok (.iload 4, 2) := by decide +kernel
theorem dX11_arcsOf_172 : decode cX11_arcsOf 172 = .ok (.iaload, 1) := by decide +kernel
theorem dX11_arcsOf_173 : decode cX11_arcsOf 173 = .ok (.iconst 2, 1) := by decide +kernel
theorem dX11_arcsOf_174 : decode cX11_arcsOf 174 = .ok (.if_icmp .ne 7, 3) := by decide +kernel
theorem dX11_arcsOf_177 : decode cX11_arcsOf 177 = .ok (.iconst 1, 1) := by decide +kernel
theorem dX11_arcsOf_178 : decode cX11_arcsOf 178 = .ok (.goto 4, 3) := by decide +kernel
theorem dX11_arcsOf_181 : decode cX11_arcsOf 181 = .ok (.iconst 0, 1) := by decide +kernel
theorem dX11_arcsOf_182 : decode cX11_arcsOf 182 = .ok (.bastore, 1) := by decide +kernel
theorem dX11_arcsOf_183 : decode cX11_arcsOf 183 = .ok (.aload_n 0, 1) := by decide +kernel
theorem dX11_arcsOf_184 : decode cX11_arcsOf 184 = .ok (.getfield 53, 3) := by decide +kernel
theorem dX11_arcsOf_187 : decode cX11_arcsOf 187 = .ok (.iload_n 1, 1) := by decide +kernel
theorem dX11_arcsOf_188 : decode cX11_arcsOf 188 = .ok (.dup2, 1) := by decide +kernel
theorem dX11_arcsOf_189 : decode cX11_arcsOf 189 = .ok (.iaload, 1) := by decide +kernel
theorem dX11_arcsOf_190 : decode cX11_arcsOf 190 = .ok (.iconst 1, 1) := by decide +kernel
theorem dX11_arcsOf_191 : decode cX11_arcsOf 191 = .ok (.iadd, 1) := by decide +kernel
theorem dX11_arcsOf_192 : decode cX11_arcsOf 192 = .ok (.iastore, 1) := by decide +kernel
theorem dX11_arcsOf_193 : decode cX11_arcsOf 193 = .ok (.iinc 3 1, 3) := by decide +kernel
theorem dX11_arcsOf_196 : decode cX11_arcsOf 196 = .ok (.goto (-194), 3) := by decide +kernel
theorem dX11_arcsOf_199 : decode cX11_arcsOf 199 = .ok (.iconst 0, 1) := by decide +kernel
theorem dX11_arcsOf_200 : decode cX11_arcsOf 200 = .ok (.ireturn, 1) := by decide +kernel
theorem dX11_load_0 : decode cX11_load 0 = .ok (.aload_n 0, 1) := by decide +kernel
theorem dX11_load_1 : decode cX11_load 1 = .ok (.iload_n 1, 1) := by decide +kernel
theorem dX11_load_2 : decode cX11_load 2 = .ok (.invokevirtual 88, 3) := by decide +kernel
theorem dX11_load_5 : decode cX11_load 5 = .ok (.ifCond .ne 6, 3) := by decide +kernel
theorem dX11_load_8 : decode cX11_load 8 = .ok (.ldc 92, 2) := by decide +kernel
theorem dX11_load_10 : decode cX11_load 10 = .ok (.ireturn, 1) := by decide +kernel
theorem dX11_load_11 : decode cX11_load 11 = .ok (.aload_n 0, 1) := by decide +kernel
theorem dX11_load_12 : decode cX11_load 12 = .ok (.getfield 7, 3) := by decide +kernel
theorem dX11_load_15 : decode cX11_load 15 = .ok (.iload_n 1, 1) := by decide +kernel
theorem dX11_load_16 : decode cX11_load 16 = .ok (.iaload, 1) := by decide +kernel
theorem dX11_load_17 : decode cX11_load 17 = .ok (.iconst 2, 1) := by decide +kernel
theorem dX11_load_18 : decode cX11_load 18 = .ok (.if_icmp .ne 6, 3) := by decide +kernel
theorem dX11_load_21 : decode cX11_load 21 = .ok (.ldc 141, 2) := by decide +kernel
theorem dX11_load_23 : decode cX11_load 23 = .ok (.ireturn, 1) := by decide +kernel
theorem dX11_load_24 : decode cX11_load 24 = .ok (.iconst 1, 1) := by decide +kernel
theorem dX11_load_25 : decode cX11_load 25 = .ok (.aload_n 0, 1) := by decide +kernel
theorem dX11_load_26 : decode cX11_load 26 = .ok (.getfield 142, 3) := by decide +kernel
theorem dX11_load_29 : decode cX11_load 29 = .ok (.isub, 1) := by decide +kernel
theorem dX11_load_30 : decode cX11_load 30 = .ok (.istore_n 3, 1) := by decide +kernel
theorem dX11_load_31 : decode cX11_load 31 = .ok (.aload_n 0, 1) := by decide +kernel
theorem dX11_load_32 : decode cX11_load 32 = .ok (.iconst 0, 1) := by decide +kernel
theorem dX11_load_33 : decode cX11_load 33 = .ok (.putfield 110, 3) := by decide +kernel
theorem dX11_load_36 : decode cX11_load 36 = .ok (.aload_n 0, 1) := by decide +kernel
theorem dX11_load_37 : decode cX11_load 37 = .ok (.getfield 38, 3) := by decide +kernel
theorem dX11_load_40 : decode cX11_load 40 = .ok (.iload_n 3, 1) := by decide +kernel
theorem dX11_load_41 : decode cX11_load 41 = .ok (.iconst 0, 1) := by decide +kernel
theorem dX11_load_42 : decode cX11_load 42 = .ok (.iastore, 1) := by decide +kernel
theorem dX11_load_43 : decode cX11_load 43 = .ok (.aload_n 0, 1) := by decide +kernel
theorem dX11_load_44 : decode cX11_load 44 = .ok (.getfield 53, 3) := by decide +kernel
theorem dX11_load_47 : decode cX11_load 47 = .ok (.iload_n 3, 1) := by decide +kernel
theorem dX11_load_48 : decode cX11_load 48 = .ok (.iconst 0, 1) := by decide +kernel
theorem dX11_load_49 : decode cX11_load 49 = .ok (.iastore, 1) := by decide +kernel
theorem dX11_load_50 : decode cX11_load 50 = .ok (.aload_n 0, 1) := by decide +kernel
theorem dX11_load_51 : decode cX11_load 51 = .ok (.getfield 65, 3) := by decide +kernel
theorem dX11_load_54 : decode cX11_load 54 = .ok (.iload_n 3, 1) := by decide +kernel
theorem dX11_load_55 : decode cX11_load 55 = .ok (.iconst 0, 1) := by decide +kernel
theorem dX11_load_56 : decode cX11_load 56 = .ok (.iastore, 1) := by decide +kernel
theorem dX11_load_57 : decode cX11_load 57 = .ok (.iconst 0, 1) := by decide +kernel
theorem dX11_load_58 : decode cX11_load 58 = .ok (.istore 4, 2) := by decide +kernel
theorem dX11_load_60 : decode cX11_load 60 = .ok (.iload 4, 2) := by decide +kernel
theorem dX11_load_62 : decode cX11_load 62 = .ok (.bipush 40, 2) := by decide +kernel
theorem dX11_load_64 : decode cX11_load 64 = .ok (.if_icmp .ge 22, 3) := by decide +kernel
theorem dX11_load_67 : decode cX11_load 67 = .ok (.aload_n 0, 1) := by decide +kernel
theorem dX11_load_68 : decode cX11_load 68 = .ok (.getfield 44, 3) := by decide +kernel
theorem dX11_load_71 : decode cX11_load 71 = .ok (.bipush 40, 2) := by decide +kernel
theorem dX11_load_73 : decode cX11_load 73 = .ok (.iload_n 3, 1) := by decide +kernel
theorem dX11_load_74 : decode cX11_load 74 = .ok (.imul, 1) := by decide +kernel
theorem dX11_load_75 : decode cX11_load 75 = .ok (.iload 4, 2) := by decide +kernel
theorem dX11_load_77 : decode cX11_load 77 = .ok (.iadd, 1) := by decide +kernel
theorem dX11_load_78 : decode cX11_load 78 = .ok (.iconst (-1), 1) := by decide +kernel
theorem dX11_load_79 : decode cX11_load 79 = .ok (.iastore, 1) := by decide +kernel
theorem dX11_load_80 : decode cX11_load 80 = .ok (.iinc 4 1, 3) := by decide +kernel
theorem dX11_load_83 : decode cX11_load 83 = .ok (.goto (-23), 3) := by decide +kernel
theorem dX11_load_86 : decode cX11_load 86 = .ok (.aload_n 0, 1) := by decide +kernel
theorem dX11_load_87 : decode cX11_load 87 = .ok (.iload_n 3, 1) := by decide +kernel
theorem dX11_load_88 : decode cX11_load 88 = .ok (.iload_n 1, 1) := by decide +kernel
theorem dX11_load_89 : decode cX11_load 89 = .ok (.invokevirtual 138, 3) := by decide +kernel
theorem dX11_load_92 : decode cX11_load 92 = .ok (.istore 4, 2) := by decide +kernel
theorem dX11_load_94 : decode cX11_load 94 = .ok (.iload 4, 2) := by decide +kernel
theorem dX11_load_96 : decode cX11_load 96 = .ok (.aload_n 0, 1) := by decide +kernel
theorem dX11_load_97 : decode cX11_load 97 = .ok (.getfield 38, 3) := by decide +kernel
theorem dX11_load_100 : decode cX11_load 100 = .ok (.iload_n 3, 1) := by decide +kernel
theorem dX11_load_101 : decode cX11_load 101 = .ok (.iaload, 1) := by decide +kernel
theorem dX11_load_102 : decode cX11_load 102 = .ok (.if_icmp .ge 27, 3) := by decide +kernel
theorem dX11_load_105 : decode cX11_load 105 = .ok (.aload_n 0, 1) := by decide +kernel
theorem dX11_load_106 : decode cX11_load 106 = .ok (.iload_n 3, 1) := by decide +kernel
theorem dX11_load_107 : decode cX11_load 107 = .ok (.iload 4, 2) := by decide +kernel
theorem dX11_load_109 : decode cX11_load 109 = .ok (.iload_n 2, 1) := by decide +kernel
theorem dX11_load_110 : decode cX11_load 110 = .ok (.invokevirtual 145, 3) := by decide +kernel
theorem dX11_load_113 : decode cX11_load 113 = .ok (.istore 5, 2) := by decide +kernel
theorem dX11_load_115 : decode cX11_load 115 = .ok (.iload 5, 2) := by decide +kernel
theorem dX11_load_117 : decode cX11_load 117 = .ok (.ifCond .ge 6, 3) := by decide +kernel
theorem dX11_load_120 : decode cX11_load 120 = .ok (.iload 5, 2) := by decide +kernel
theorem dX11_load_122 : decode cX11_load 122 = .ok (.ireturn, 1) := by decide +kernel
theorem dX11_load_123 : decode cX11_load 123 = .ok (.iinc 4 1, 3) := by decide +kernel
theorem dX11_load_126 : decode cX11_load 126 = .ok (.goto (-32), 3) := by decide +kernel
theorem dX11_load_129 : decode cX11_load 129 = .ok (.aload_n 0, 1) := by decide +kernel
theorem dX11_load_130 : decode cX11_load 130 = .ok (.getfield 50, 3) := by decide +kernel
theorem dX11_load_133 : decode cX11_load 133 = .ok (.bipush 41, 2) := by decide +kernel
theorem dX11_load_135 : decode cX11_load 135 = .ok (.iload_n 3, 1) := by decide +kernel
theorem dX11_load_136 : decode cX11_load 136 = .ok (.imul, 1) := by decide +kernel
theorem dX11_load_137 : decode cX11_load 137 = .ok (.aload_n 0, 1) := by decide +kernel
theorem dX11_load_138 : decode cX11_load 138 = .ok (.getfield 38, 3) := by decide +kernel
theorem dX11_load_141 : decode cX11_load 141 = .ok (.iload_n 3, 1) := by decide +kernel
theorem dX11_load_142 : decode cX11_load 142 = .ok (.iaload, 1) := by decide +kernel
theorem dX11_load_143 : decode cX11_load 143 = .ok (.iadd, 1) := by decide +kernel
theorem dX11_load_144 : decode cX11_load 144 = .ok (.aload_n 0, 1) := by decide +kernel
theorem dX11_load_145 : decode cX11_load 145 = .ok (.getfield 53, 3) := by decide +kernel
theorem dX11_load_148 : decode cX11_load 148 = .ok (.iload_n 3, 1) := by decide +kernel
theorem dX11_load_149 : decode cX11_load 149 = .ok (.iaload, 1) := by decide +kernel
theorem dX11_load_150 : decode cX11_load 150 = .ok (.iastore, 1) := by decide +kernel
theorem dX11_load_151 : decode cX11_load 151 = .ok (.aload_n 0, 1) := by decide +kernel
theorem dX11_load_152 : decode cX11_load 152 = .ok (.iload_n 3, 1) := by decide +kernel
theorem dX11_load_153 : decode cX11_load 153 = .ok (.putfield 142, 3) := by decide +kernel
theorem dX11_load_156 : decode cX11_load 156 = .ok (.aload_n 0, 1) := by decide +kernel
theorem dX11_load_157 : decode cX11_load 157 = .ok (.getfield 38, 3) := by decide +kernel
theorem dX11_load_160 : decode cX11_load 160 = .ok (.iload_n 3, 1) := by decide +kernel
theorem dX11_load_161 : decode cX11_load 161 = .ok (.iaload, 1) := by decide +kernel
theorem dX11_load_162 : decode cX11_load 162 = .ok (.ireturn, 1) := by decide +kernel
theorem dX11_refused_0 : decode cX11_refused 0 = .ok (.iload_n 1, 1) := by decide +kernel
theorem dX11_refused_1 : decode cX11_refused 1 = .ok (.iconst 0, 1) := by decide +kernel
theorem dX11_refused_2 : decode cX11_refused 2 = .ok (.iconst 2, 1) := by decide +kernel
theorem dX11_refused_3 : decode cX11_refused 3 = .ok (.invokestatic 81, 3) := by decide +kernel
theorem dX11_refused_6 : decode cX11_refused 6 = .ok (.ifCond .ne 6, 3) := by decide +kernel
theorem dX11_refused_9 : decode cX11_refused 9 = .ok (.ldc 85, 2) := by decide +kernel
theorem dX11_refused_11 : decode cX11_refused 11 = .ok (.ireturn, 1) := by decide +kernel
theorem dX11_refused_12 : decode cX11_refused 12 = .ok (.aload_n 0, 1) := by decide +kernel
theorem dX11_refused_13 : decode cX11_refused 13 = .ok (.getfield 110, 3) := by decide +kernel
theorem dX11_refused_16 : decode cX11_refused 16 = .ok (.ifCond .ne 8, 3) := by decide +kernel
theorem dX11_refused_19 : decode cX11_refused 19 = .ok (.ldc 87, 2) := by decide +kernel
theorem dX11_refused_21 : decode cX11_refused 21 = .ok (.goto 30, 3) := by decide +kernel
theorem dX11_refused_24 : decode cX11_refused 24 = .ok (.iload_n 1, 1) := by decide +kernel
theorem dX11_refused_25 : decode cX11_refused 25 = .ok (.ifCond .ne 10, 3) := by decide +kernel
theorem dX11_refused_28 : decode cX11_refused 28 = .ok (.aload_n 0, 1) := by decide +kernel
theorem dX11_refused_29 : decode cX11_refused 29 = .ok (.getfield 104, 3) := by decide +kernel
theorem dX11_refused_32 : decode cX11_refused 32 = .ok (.goto 19, 3) := by decide +kernel
theorem dX11_refused_35 : decode cX11_refused 35 = .ok (.iload_n 1, 1) := by decide +kernel
theorem dX11_refused_36 : decode cX11_refused 36 = .ok (.iconst 1, 1) := by decide +kernel
theorem dX11_refused_37 : decode cX11_refused 37 = .ok (.if_icmp .ne 10, 3) := by decide +kernel
theorem dX11_refused_40 : decode cX11_refused 40 = .ok (.aload_n 0, 1) := by decide +kernel
theorem dX11_refused_41 : decode cX11_refused 41 = .ok (.getfield 107, 3) := by decide +kernel
theorem dX11_refused_44 : decode cX11_refused 44 = .ok (.goto 7, 3) := by decide +kernel
theorem dX11_refused_47 : decode cX11_refused 47 = .ok (.aload_n 0, 1) := by decide +kernel
theorem dX11_refused_48 : decode cX11_refused 48 = .ok (.getfield 110, 3) := by decide +kernel
theorem dX11_refused_51 : decode cX11_refused 51 = .ok (.ireturn, 1) := by decide +kernel
theorem dX11_node_0 : decode cX11_node 0 = .ok (.aload_n 0, 1) := by decide +kernel
theorem dX11_node_1 : decode cX11_node 1 = .ok (.iload_n 1, 1) := by decide +kernel
theorem dX11_node_2 : decode cX11_node 2 = .ok (.invokevirtual 88, 3) := by decide +kernel
theorem dX11_node_5 : decode cX11_node 5 = .ok (.ifCond .ne 6, 3) := by decide +kernel
theorem dX11_node_8 : decode cX11_node 8 = .ok (.ldc 92, 2) := by decide +kernel
theorem dX11_node_10 : decode cX11_node 10 = .ok (.ireturn, 1) := by decide +kernel
theorem dX11_node_11 : decode cX11_node 11 = .ok (.aload_n 0, 1) := by decide +kernel
theorem dX11_node_12 : decode cX11_node 12 = .ok (.getfield 38, 3) := by decide +kernel
theorem dX11_node_15 : decode cX11_node 15 = .ok (.aload_n 0, 1) := by decide +kernel
theorem dX11_node_16 : decode cX11_node 16 = .ok (.getfield 142, 3) := by decide +kernel
theorem dX11_node_19 : decode cX11_node 19 = .ok (.iaload, 1) := by decide +kernel
theorem dX11_node_20 : decode cX11_node 20 = .ok (.ifCond .eq 20, 3) := by decide +kernel
theorem dX11_node_23 : decode cX11_node 23 = .ok (.aload_n 0, 1) := by decide +kernel
theorem dX11_node_24 : decode cX11_node 24 = .ok (.getfield 44, 3) := by decide +kernel
theorem dX11_node_27 : decode cX11_node 27 = .ok (.bipush 40, 2) := by decide +kernel
theorem dX11_node_29 : decode cX11_node 29 = .ok (.aload_n 0, 1) := by decide +kernel
theorem dX11_node_30 : decode cX11_node 30 = .ok (.getfield 142, 3) := by decide +kernel
theorem dX11_node_33 : decode cX11_node 33 = .ok (.imul, 1) := by decide +kernel
theorem dX11_node_34 : decode cX11_node 34 = .ok (.iload_n 1, 1) := by decide +kernel
theorem dX11_node_35 : decode cX11_node 35 = .ok (.iadd, 1) := by decide +kernel
theorem dX11_node_36 : decode cX11_node 36 = .ok (.iaload, 1) := by decide +kernel
theorem dX11_node_37 : decode cX11_node 37 = .ok (.ifCond .ge 8, 3) := by decide +kernel
theorem dX11_node_40 : decode cX11_node 40 = .ok (.ldc 87, 2) := by decide +kernel
theorem dX11_node_42 : decode cX11_node 42 = .ok (.goto 17, 3) := by decide +kernel
theorem dX11_node_45 : decode cX11_node 45 = .ok (.aload_n 0, 1) := by decide +kernel
theorem dX11_node_46 : decode cX11_node 46 = .ok (.getfield 44, 3) := by decide +kernel
theorem dX11_node_49 : decode cX11_node 49 = .ok (.bipush 40, 2) := by decide +kernel
theorem dX11_node_51 : decode cX11_node 51 = .ok (.aload_n 0, 1) := by decide +kernel
theorem dX11_node_52 : decode cX11_node 52 = .ok (.getfield 142, 3) := by decide +kernel
theorem dX11_node_55 : decode cX11_node 55 = .ok (.imul, 1) := by decide +kernel
theorem dX11_node_56 : decode cX11_node 56 = .ok (.iload_n 1, 1) := by decide +kernel
theorem dX11_node_57 : decode cX11_node 57 = .ok (.iadd, 1) := by decide +kernel
theorem dX11_node_58 : decode cX11_node 58 = .ok (.iaload, 1) := by decide +kernel
theorem dX11_node_59 : decode cX11_node 59 = .ok (.ireturn, 1) := by decide +kernel
theorem dX11_isNode_0 : decode cX11_isNode 0 = .ok (.iload_n 1, 1) := by decide +kernel
theorem dX11_isNode_1 : decode cX11_isNode 1 = .ok (.iconst 0, 1) := by decide +kernel
theorem dX11_isNode_2 : decode cX11_isNode 2 = .ok (.aload_n 0, 1) := by decide +kernel
theorem dX11_isNode_3 : decode cX11_isNode 3 = .ok (.getfield 38, 3) := by decide +kernel
theorem dX11_isNode_6 : decode cX11_isNode 6 = .ok (.aload_n 0, 1) := by decide +kernel
theorem dX11_isNode_7 : decode cX11_isNode 7 = .ok (.getfield 142, 3) := by decide +kernel
theorem dX11_isNode_10 : decode cX11_isNode 10 = .ok (.iaload, 1) := by decide +kernel
theorem dX11_isNode_11 : decode cX11_isNode 11 = .ok (.iconst 1, 1) := by decide +kernel
theorem dX11_isNode_12 : decode cX11_isNode 12 = .ok (.isub, 1) := by decide +kernel
theorem dX11_isNode_13 : decode cX11_isNode 13 = .ok (.invokestatic 81, 3) := by decide +kernel
theorem dX11_isNode_16 : decode cX11_isNode 16 = .ok (.ireturn, 1) := by decide +kernel
theorem dX11_of_0 : decode cX11_of 0 = .ok (.aload_n 0, 1) := by decide +kernel
theorem dX11_of_1 : decode cX11_of 1 = .ok (.iload_n 1, 1) := by decide +kernel
theorem dX11_of_2 : decode cX11_of 2 = .ok (.invokevirtual 149, 3) := by decide +kernel
theorem dX11_of_5 : decode cX11_of 5 = .ok (.ifCond .eq 20, 3) := by decide +kernel
theorem dX11_of_8 : decode cX11_of 8 = .ok (.aload_n 0, 1) := by decide +kernel
theorem dX11_of_9 : decode cX11_of 9 = .ok (.getfield 41, 3) := by decide +kernel
theorem dX11_of_12 : decode cX11_of 12 = .ok (.bipush 40, 2) := by decide +kernel
theorem dX11_of_14 : decode cX11_of 14 = .ok (.aload_n 0, 1) := by decide +kernel
theorem dX11_of_15 : decode cX11_of 15 = .ok (.getfield 142, 3) := by decide +kernel
theorem dX11_of_18 : decode cX11_of 18 = .ok (.imul, 1) := by decide +kernel
theorem dX11_of_19 : decode cX11_of 19 = .ok (.iload_n 1, 1) := by decide +kernel
theorem dX11_of_20 : decode cX11_of 20 = .ok (.iadd, 1) := by decide +kernel
theorem dX11_of_21 : decode cX11_of 21 = .ok (.iaload, 1) := by decide +kernel
theorem dX11_of_22 : decode cX11_of 22 = .ok (.goto 5, 3) := by decide +kernel
theorem dX11_of_25 : decode cX11_of 25 = .ok (.ldc 92, 2) := by decide +kernel
theorem dX11_of_27 : decode cX11_of 27 = .ok (.ireturn, 1) := by decide +kernel
theorem dX11_column_0 : decode cX11_column 0 = .ok (.aload_n 0, 1) := by decide +kernel
theorem dX11_column_1 : decode cX11_column 1 = .ok (.iload_n 1, 1) := by decide +kernel
theorem dX11_column_2 : decode cX11_column 2 = .ok (.invokevirtual 149, 3) := by decide +kernel
theorem dX11_column_5 : decode cX11_column 5 = .ok (.ifCond .eq 20, 3) := by decide +kernel
theorem dX11_column_8 : decode cX11_column 8 = .ok (.aload_n 0, 1) := by decide +kernel
theorem dX11_column_9 : decode cX11_column 9 = .ok (.getfield 47, 3) := by decide +kernel
theorem dX11_column_12 : decode cX11_column 12 = .ok (.bipush 40, 2) := by decide +kernel
theorem dX11_column_14 : decode cX11_column 14 = .ok (.aload_n 0, 1) := by decide +kernel
theorem dX11_column_15 : decode cX11_column 15 = .ok (.getfield 142, 3) := by decide +kernel
theorem dX11_column_18 : decode cX11_column 18 = .ok (.imul, 1) := by decide +kernel
theorem dX11_column_19 : decode cX11_column 19 = .ok (.iload_n 1, 1) := by decide +kernel
theorem dX11_column_20 : decode cX11_column 20 = .ok (.iadd, 1) := by decide +kernel
theorem dX11_column_21 : decode cX11_column 21 = .ok (.iaload, 1) := by decide +kernel
theorem dX11_column_22 : decode cX11_column 22 = .ok (.goto 5, 3) := by decide +kernel
theorem dX11_column_25 : decode cX11_column 25 = .ok (.ldc 92, 2) := by decide +kernel
theorem dX11_column_27 : decode cX11_column 27 = .ok (.ireturn, 1) := by decide +kernel
theorem dX11_arcs_0 : decode cX11_arcs 0 = .ok (.aload_n 0, 1) := by decide +kernel
theorem dX11_arcs_1 : decode cX11_arcs 1 = .ok (.iload_n 1, 1) := by decide +kernel
theorem dX11_arcs_2 : decode cX11_arcs 2 = .ok (.invokevirtual 149, 3) := by decide +kernel
theorem dX11_arcs_5 : decode cX11_arcs 5 = .ok (.ifCond .eq 37, 3) := by decide +kernel
theorem dX11_arcs_8 : decode cX11_arcs 8 = .ok (.aload_n 0, 1) := by decide +kernel
theorem dX11_arcs_9 : decode cX11_arcs 9 = .ok (.getfield 50, 3) := by decide +kernel
theorem dX11_arcs_12 : decode cX11_arcs 12 = .ok (.bipush 41, 2) := by decide +kernel
theorem dX11_arcs_14 : decode cX11_arcs 14 = .ok (.aload_n 0, 1) := by decide +kernel
theorem dX11_arcs_15 : decode cX11_arcs 15 = .ok (.getfield 142, 3) := by decide +kernel
theorem dX11_arcs_18 : decode cX11_arcs 18 = .ok (.imul, 1) := by decide +kernel
theorem dX11_arcs_19 : decode cX11_arcs 19 = .ok (.iload_n 1, 1) := by decide +kernel
theorem dX11_arcs_20 : decode cX11_arcs 20 = .ok (.iadd, 1) := by decide +kernel
theorem dX11_arcs_21 : decode cX11_arcs 21 = .ok (.iconst 1, 1) := by decide +kernel
theorem dX11_arcs_22 : decode cX11_arcs 22 = .ok (.iadd, 1) := by decide +kernel
theorem dX11_arcs_23 : decode cX11_arcs 23 = .ok (.iaload, 1) := by decide +kernel
theorem dX11_arcs_24 : decode cX11_arcs 24 = .ok (.aload_n 0, 1) := by decide +kernel
theorem dX11_arcs_25 : decode cX11_arcs 25 = .ok (.getfield 50, 3) := by decide +kernel
theorem dX11_arcs_28 : decode cX11_arcs 28 = .ok (.bipush 41, 2) := by decide +kernel
theorem dX11_arcs_30 : decode cX11_arcs 30 = .ok (.aload_n 0, 1) := by decide +kernel
theorem dX11_arcs_31 : decode cX11_arcs 31 = .ok (.getfield 142, 3) := by decide +kernel
theorem dX11_arcs_34 : decode cX11_arcs 34 = .ok (.imul, 1) := by decide +kernel
theorem dX11_arcs_35 : decode cX11_arcs 35 = .ok (.iload_n 1, 1) := by decide +kernel
theorem dX11_arcs_36 : decode cX11_arcs 36 = .ok (.iadd, 1) := by decide +kernel
theorem dX11_arcs_37 : decode cX11_arcs 37 = .ok (.iaload, 1) := by decide +kernel
theorem dX11_arcs_38 : decode cX11_arcs 38 = .ok (.isub, 1) := by decide +kernel
theorem dX11_arcs_39 : decode cX11_arcs 39 = .ok (.goto 5, 3) := by decide +kernel
theorem dX11_arcs_42 : decode cX11_arcs 42 = .ok (.ldc 92, 2) := by decide +kernel
theorem dX11_arcs_44 : decode cX11_arcs 44 = .ok (.ireturn, 1) := by decide +kernel
theorem dX11_arc_0 : decode cX11_arc 0 = .ok (.aload_n 0, 1) := by decide +kernel
theorem dX11_arc_1 : decode cX11_arc 1 = .ok (.iload_n 1, 1) := by decide +kernel
theorem dX11_arc_2 : decode cX11_arc 2 = .ok (.invokevirtual 149, 3) := by decide +kernel
theorem dX11_arc_5 : decode cX11_arc 5 = .ok (.ifCond .eq 18, 3) := by decide +kernel
theorem dX11_arc_8 : decode cX11_arc 8 = .ok (.iload_n 2, 1) := by decide +kernel
theorem dX11_arc_9 : decode cX11_arc 9 = .ok (.iconst 0, 1) := by decide +kernel
theorem dX11_arc_10 : decode cX11_arc 10 = .ok (.aload_n 0, 1) := by decide +kernel
theorem dX11_arc_11 : decode cX11_arc 11 = .ok (.iload_n 1, 1) := by decide +kernel
theorem dX11_arc_12 : decode cX11_arc 12 = .ok (.invokevirtual 152, 3) := by decide +kernel
theorem dX11_arc_15 : decode cX11_arc 15 = .ok (.iconst 1, 1) := by decide +kernel
theorem dX11_arc_16 : decode cX11_arc 16 = .ok (.isub, 1) := by decide +kernel
theorem dX11_arc_17 : decode cX11_arc 17 = .ok (.invokestatic 81, 3) := by decide +kernel
theorem dX11_arc_20 : decode cX11_arc 20 = .ok (.ifCond .ne 6, 3) := by decide +kernel
theorem dX11_arc_23 : decode cX11_arc 23 = .ok (.ldc 92, 2) := by decide +kernel
theorem dX11_arc_25 : decode cX11_arc 25 = .ok (.ireturn, 1) := by decide +kernel
theorem dX11_arc_26 : decode cX11_arc 26 = .ok (.sipush 240, 3) := by decide +kernel
theorem dX11_arc_29 : decode cX11_arc 29 = .ok (.aload_n 0, 1) := by decide +kernel
theorem dX11_arc_30 : decode cX11_arc 30 = .ok (.getfield 142, 3) := by decide +kernel
theorem dX11_arc_33 : decode cX11_arc 33 = .ok (.imul, 1) := by decide +kernel
theorem dX11_arc_34 : decode cX11_arc 34 = .ok (.aload_n 0, 1) := by decide +kernel
theorem dX11_arc_35 : decode cX11_arc 35 = .ok (.getfield 50, 3) := by decide +kernel
theorem dX11_arc_38 : decode cX11_arc 38 = .ok (.bipush 41, 2) := by decide +kernel
theorem dX11_arc_40 : decode cX11_arc 40 = .ok (.aload_n 0, 1) := by decide +kernel
theorem dX11_arc_41 : decode cX11_arc 41 = .ok (.getfield 142, 3) := by decide +kernel
theorem dX11_arc_44 : decode cX11_arc 44 = .ok (.imul, 1) := by decide +kernel
theorem dX11_arc_45 : decode cX11_arc 45 = .ok (.iload_n 1, 1) := by decide +kernel
theorem dX11_arc_46 : decode cX11_arc 46 = .ok (.iadd, 1) := by decide +kernel
theorem dX11_arc_47 : decode cX11_arc 47 = .ok (.iaload, 1) := by decide +kernel
theorem dX11_arc_48 : decode cX11_arc 48 = .ok (.iadd, 1) := by decide +kernel
theorem dX11_arc_49 : decode cX11_arc 49 = .ok (.iload_n 2, 1) := by decide +kernel
theorem dX11_arc_50 : decode cX11_arc 50 = .ok (.iadd, 1) := by decide +kernel
theorem dX11_arc_51 : decode cX11_arc 51 = .ok (.istore 4, 2) := by decide +kernel
theorem dX11_arc_53 : decode cX11_arc 53 = .ok (.iload_n 3, 1) := by decide +kernel
theorem dX11_arc_54 : decode cX11_arc 54 = .ok (.ifCond .ne 13, 3) := by decide +kernel
theorem dX11_arc_57 : decode cX11_arc 57 = .ok (.aload_n 0, 1) := by decide +kernel
theorem dX11_arc_58 : decode cX11_arc 58 = .ok (.getfield 56, 3) := by decide +kernel
theorem dX11_arc_61 : decode cX11_arc 61 = .ok (.iload 4, 2) := by decide +kernel
theorem dX11_arc_63 : decode cX11_arc 63 = .ok (.iaload, 1) := by decide +kernel
theorem dX11_arc_64 : decode cX11_arc 64 = .ok (.goto 43, 3) := by decide +kernel
theorem dX11_arc_67 : decode cX11_arc 67 = .ok (.iload_n 3, 1) := by decide +kernel
theorem dX11_arc_68 : decode cX11_arc 68 = .ok (.iconst 1, 1) := by decide +kernel
theorem dX11_arc_69 : decode cX11_arc 69 = .ok (.if_icmp .ne 13, 3) := by decide +kernel
theorem dX11_arc_72 : decode cX11_arc 72 = .ok (.aload_n 0, 1) := by decide +kernel
theorem dX11_arc_73 : decode cX11_arc 73 = .ok (.getfield 59, 3) := by decide +kernel
theorem dX11_arc_76 : decode cX11_arc 76 = .ok (.iload 4, 2) := by decide +kernel
theorem dX11_arc_78 : decode cX11_arc 78 = .ok (.iaload, 1) := by decide +kernel
theorem dX11_arc_79 : decode cX11_arc 79 = .ok (.goto 28, 3) := by decide +kernel
theorem dX11_arc_82 : decode cX11_arc 82 = .ok (.iload_n 3, 1) := by decide +kernel
theorem dX11_arc_83 : decode cX11_arc 83 = .ok (.iconst 2, 1) := by decide +kernel
theorem dX11_arc_84 : decode cX11_arc 84 = .ok (.if_icmp .ne 21, 3) := by decide +kernel
theorem dX11_arc_87 : decode cX11_arc 87 = .ok (.aload_n 0, 1) := by decide +kernel
theorem dX11_arc_88 : decode cX11_arc 88 = .ok (.getfield 62, 3) := by decide +kernel
theorem dX11_arc_91 : decode cX11_arc 91 = .ok (.iload 4, 2) := by decide +kernel
theorem dX11_arc_93 : decode cX11_arc 93 = .ok (.baload, 1) := by decide +kernel
theorem dX11_arc_94 : decode cX11_arc 94 = .ok (.ifCond .eq 7, 3) := by decide +kernel
theorem dX11_arc_97 : decode cX11_arc 97 = .ok (.iconst 1, 1) := by decide +kernel
theorem dX11_arc_98 : decode cX11_arc 98 = .ok (.goto 9, 3) := by decide +kernel
theorem dX11_arc_101 : decode cX11_arc 101 = .ok (.iconst 0, 1) := by decide +kernel
theorem dX11_arc_102 : decode cX11_arc 102 = .ok (.goto 5, 3) := by decide +kernel
theorem dX11_arc_105 : decode cX11_arc 105 = .ok (.ldc 85, 2) := by decide +kernel
theorem dX11_arc_107 : decode cX11_arc 107 = .ok (.ireturn, 1) := by decide +kernel
theorem dX11_way_0 : decode cX11_way 0 = .ok (.aload_n 0, 1) := by decide +kernel
theorem dX11_way_1 : decode cX11_way 1 = .ok (.iload_n 1, 1) := by decide +kernel
theorem dX11_way_2 : decode cX11_way 2 = .ok (.invokevirtual 149, 3) := by decide +kernel
theorem dX11_way_5 : decode cX11_way 5 = .ok (.ifCond .eq 11, 3) := by decide +kernel
theorem dX11_way_8 : decode cX11_way 8 = .ok (.aload_n 0, 1) := by decide +kernel
theorem dX11_way_9 : decode cX11_way 9 = .ok (.iload_n 2, 1) := by decide +kernel
theorem dX11_way_10 : decode cX11_way 10 = .ok (.invokevirtual 149, 3) := by decide +kernel
theorem dX11_way_13 : decode cX11_way 13 = .ok (.ifCond .ne 6, 3) := by decide +kernel
theorem dX11_way_16 : decode cX11_way 16 = .ok (.ldc 92, 2) := by decide +kernel
theorem dX11_way_18 : decode cX11_way 18 = .ok (.ireturn, 1) := by decide +kernel
theorem dX11_way_19 : decode cX11_way 19 = .ok (.iconst 0, 1) := by decide +kernel
theorem dX11_way_20 : decode cX11_way 20 = .ok (.istore_n 3, 1) := by decide +kernel
theorem dX11_way_21 : decode cX11_way 21 = .ok (.iload_n 3, 1) := by decide +kernel
theorem dX11_way_22 : decode cX11_way 22 = .ok (.bipush 40, 2) := by decide +kernel
theorem dX11_way_24 : decode cX11_way 24 = .ok (.if_icmp .ge 26, 3) := by decide +kernel
theorem dX11_way_27 : decode cX11_way 27 = .ok (.aload_n 0, 1) := by decide +kernel
theorem dX11_way_28 : decode cX11_way 28 = .ok (.getfield 71, 3) := by decide +kernel
theorem dX11_way_31 : decode cX11_way 31 = .ok (.iload_n 3, 1) := by decide +kernel
theorem dX11_way_32 : decode cX11_way 32 = .ok (.iload_n 3, 1) := by decide +kernel
theorem dX11_way_33 : decode cX11_way 33 = .ok (.iload_n 1, 1) := by decide +kernel
theorem dX11_way_34 : decode cX11_way 34 = .ok (.if_icmp .ne 7, 3) := by decide +kernel
theorem dX11_way_37 : decode cX11_way 37 = .ok (.iconst 0, 1) := by decide +kernel
theorem dX11_way_38 : decode cX11_way 38 = .ok (.goto 5, 3) := by decide +kernel
theorem dX11_way_41 : decode cX11_way 41 = .ok (.ldc 87, 2) := by decide +kernel
theorem dX11_way_43 : decode cX11_way 43 = .ok (.iastore, 1) := by decide +kernel
theorem dX11_way_44 : decode cX11_way 44 = .ok (.iinc 3 1, 3) := by decide +kernel
theorem dX11_way_47 : decode cX11_way 47 = .ok (.goto (-26), 3) := by decide +kernel
theorem dX11_way_50 : decode cX11_way 50 = .ok (.iconst 0, 1) := by decide +kernel
theorem dX11_way_51 : decode cX11_way 51 = .ok (.istore_n 3, 1) := by decide +kernel
theorem dX11_way_52 : decode cX11_way 52 = .ok (.iload_n 3, 1) := by decide +kernel
theorem dX11_way_53 : decode cX11_way 53 = .ok (.aload_n 0, 1) := by decide +kernel
theorem dX11_way_54 : decode cX11_way 54 = .ok (.getfield 38, 3) := by decide +kernel
theorem dX11_way_57 : decode cX11_way 57 = .ok (.aload_n 0, 1) := by decide +kernel
theorem dX11_way_58 : decode cX11_way 58 = .ok (.getfield 142, 3) := by decide +kernel
theorem dX11_way_61 : decode cX11_way 61 = .ok (.iaload, 1) := by decide +kernel
theorem dX11_way_62 : decode cX11_way 62 = .ok (.if_icmp .ge 138, 3) := by decide +kernel
theorem dX11_way_65 : decode cX11_way 65 = .ok (.iconst 0, 1) := by decide +kernel
theorem dX11_way_66 : decode cX11_way 66 = .ok (.istore 4, 2) := by decide +kernel
theorem dX11_way_68 : decode cX11_way 68 = .ok (.iload 4, 2) := by decide +kernel
theorem dX11_way_70 : decode cX11_way 70 = .ok (.aload_n 0, 1) := by decide +kernel
theorem dX11_way_71 : decode cX11_way 71 = .ok (.getfield 38, 3) := by decide +kernel
theorem dX11_way_74 : decode cX11_way 74 = .ok (.aload_n 0, 1) := by decide +kernel
theorem dX11_way_75 : decode cX11_way 75 = .ok (.getfield 142, 3) := by decide +kernel
theorem dX11_way_78 : decode cX11_way 78 = .ok (.iaload, 1) := by decide +kernel
theorem dX11_way_79 : decode cX11_way 79 = .ok (.if_icmp .ge 115, 3) := by decide +kernel
theorem dX11_way_82 : decode cX11_way 82 = .ok (.aload_n 0, 1) := by decide +kernel
theorem dX11_way_83 : decode cX11_way 83 = .ok (.getfield 50, 3) := by decide +kernel
theorem dX11_way_86 : decode cX11_way 86 = .ok (.bipush 41, 2) := by decide +kernel
theorem dX11_way_88 : decode cX11_way 88 = .ok (.aload_n 0, 1) := by decide +kernel
theorem dX11_way_89 : decode cX11_way 89 = .ok (.getfield 142, 3) := by decide +kernel
theorem dX11_way_92 : decode cX11_way 92 = .ok (.imul, 1) := by decide +kernel
theorem dX11_way_93 : decode cX11_way 93 = .ok (.iload 4, 2) := by decide +kernel
theorem dX11_way_95 : decode cX11_way 95 = .ok (.iadd, 1) := by decide +kernel
theorem dX11_way_96 : decode cX11_way 96 = .ok (.iaload, 1) := by decide +kernel
theorem dX11_way_97 : decode cX11_way 97 = .ok (.istore 5, 2) := by decide +kernel
theorem dX11_way_99 : decode cX11_way 99 = .ok (.iload 5, 2) := by decide +kernel
theorem dX11_way_101 : decode cX11_way 101 = .ok (.aload_n 0, 1) := by decide +kernel
theorem dX11_way_102 : decode cX11_way 102 = .ok (.getfield 50, 3) := by decide +kernel
theorem dX11_way_105 : decode cX11_way 105 = .ok (.bipush 41, 2) := by decide +kernel
theorem dX11_way_107 : decode cX11_way 107 = .ok (.aload_n 0, 1) := by decide +kernel
theorem dX11_way_108 : decode cX11_way 108 = .ok (.getfield 142, 3) := by decide +kernel
theorem dX11_way_111 : decode cX11_way 111 = .ok (.imul, 1) := by decide +kernel
theorem dX11_way_112 : decode cX11_way 112 = .ok (.iload 4, 2) := by decide +kernel
theorem dX11_way_114 : decode cX11_way 114 = .ok (.iadd, 1) := by decide +kernel
theorem dX11_way_115 : decode cX11_way 115 = .ok (.iconst 1, 1) := by decide +kernel
theorem dX11_way_116 : decode cX11_way 116 = .ok (.iadd, 1) := by decide +kernel
theorem dX11_way_117 : decode cX11_way 117 = .ok (.iaload, 1) := by decide +kernel
theorem dX11_way_118 : decode cX11_way 118 = .ok (.if_icmp .ge 70, 3) := by decide +kernel
theorem dX11_way_121 : decode cX11_way 121 = .ok (.aload_n 0, 1) := by decide +kernel
theorem dX11_way_122 : decode cX11_way 122 = .ok (.getfield 71, 3) := by decide +kernel
theorem dX11_way_125 : decode cX11_way 125 = .ok (.iload 4, 2) := by decide +kernel
theorem dX11_way_127 : decode cX11_way 127 = .ok (.iaload, 1) := by decide +kernel
theorem dX11_way_128 : decode cX11_way 128 = .ok (.iload_n 3, 1) := by decide +kernel
theorem dX11_way_129 : decode cX11_way 129 = .ok (.if_icmp .ne 59, 3) := by decide +kernel
theorem dX11_way_132 : decode cX11_way 132 = .ok (.aload_n 0, 1) := by decide +kernel
theorem dX11_way_133 : decode cX11_way 133 = .ok (.getfield 56, 3) := by decide +kernel
theorem dX11_way_136 : decode cX11_way 136 = .ok (.sipush 240, 3) := by decide +kernel
theorem dX11_way_139 : decode cX11_way 139 = .ok (.aload_n 0, 1) := by decide +kernel
theorem dX11_way_140 : decode cX11_way 140 = .ok (.getfield 142, 3) := by decide +kernel
theorem dX11_way_143 : decode cX11_way 143 = .ok (.imul, 1) := by decide +kernel
theorem dX11_way_144 : decode cX11_way 144 = .ok (.iload 5, 2) := by decide +kernel
theorem dX11_way_146 : decode cX11_way 146 = .ok (.iadd, 1) := by decide +kernel
theorem dX11_way_147 : decode cX11_way 147 = .ok (.iaload, 1) := by decide +kernel
theorem dX11_way_148 : decode cX11_way 148 = .ok (.istore 6, 2) := by decide +kernel
theorem dX11_way_150 : decode cX11_way 150 = .ok (.aload_n 0, 1) := by decide +kernel
theorem dX11_way_151 : decode cX11_way 151 = .ok (.getfield 71, 3) := by decide +kernel
theorem dX11_way_154 : decode cX11_way 154 = .ok (.iload 6, 2) := by decide +kernel
theorem dX11_way_156 : decode cX11_way 156 = .ok (.aload_n 0, 1) := by decide +kernel
theorem dX11_way_157 : decode cX11_way 157 = .ok (.getfield 71, 3) := by decide +kernel
theorem dX11_way_160 : decode cX11_way 160 = .ok (.iload 6, 2) := by decide +kernel
theorem dX11_way_162 : decode cX11_way 162 = .ok (.iaload, 1) := by decide +kernel
theorem dX11_way_163 : decode cX11_way 163 = .ok (.ldc 87, 2) := by decide +kernel
theorem dX11_way_165 : decode cX11_way 165 = .ok (.if_icmp .ne 9, 3) := by decide +kernel
theorem dX11_way_168 : decode cX11_way 168 = .ok (.iload_n 3, 1) := by decide +kernel
theorem dX11_way_169 : decode cX11_way 169 = .ok (.iconst 1, 1) := by decide +kernel
theorem dX11_way_170 : decode cX11_way 170 = .ok (.iadd, 1) := by decide +kernel
theorem dX11_way_171 : decode cX11_way 171 = .ok (.goto 10, 3) := by decide +kernel
theorem dX11_way_174 : decode cX11_way 174 = .ok (.aload_n 0, 1) := by decide +kernel
theorem dX11_way_175 : decode cX11_way 175 = .ok (.getfield 71, 3) := by decide +kernel
theorem dX11_way_178 : decode cX11_way 178 = .ok (.iload 6, 2) := by decide +kernel
theorem dX11_way_180 : decode cX11_way 180 = .ok (.iaload, 1) := by decide +kernel
theorem dX11_way_181 : decode cX11_way 181 = .ok (.iastore, 1) := by decide +kernel
theorem dX11_way_182 : decode cX11_way 182 = .ok (.iinc 5 1, 3) := by decide +kernel
theorem dX11_way_185 : decode cX11_way 185 = .ok (.goto (-86), 3) := by decide +kernel
theorem dX11_way_188 : decode cX11_way 188 = .ok (.iinc 4 1, 3) := by decide +kernel
theorem dX11_way_191 : decode cX11_way 191 = .ok (.goto (-123), 3) := by decide +kernel
theorem dX11_way_194 : decode cX11_way 194 = .ok (.iinc 3 1, 3) := by decide +kernel
theorem dX11_way_197 : decode cX11_way 197 = .ok (.goto (-145), 3) := by decide +kernel
theorem dX11_way_200 : decode cX11_way 200 = .ok (.aload_n 0, 1) := by decide +kernel
theorem dX11_way_201 : decode cX11_way 201 = .ok (.getfield 71, 3) := by decide +kernel
theorem dX11_way_204 : decode cX11_way 204 = .ok (.iload_n 2, 1) := by decide +kernel
theorem dX11_way_205 : decode cX11_way 205 = .ok (.iaload, 1) := by decide +kernel
theorem dX11_way_206 : decode cX11_way 206 = .ok (.ireturn, 1) := by decide +kernel
theorem dX11_holes_0 : decode cX11_holes 0 = .ok (.aload_n 0, 1) := by decide +kernel
theorem dX11_holes_1 : decode cX11_holes 1 = .ok (.getfield 38, 3) := by decide +kernel
theorem dX11_holes_4 : decode cX11_holes 4 = .ok (.aload_n 0, 1) := by decide +kernel
theorem dX11_holes_5 : decode cX11_holes 5 = .ok (.getfield 142, 3) := by decide +kernel
theorem dX11_holes_8 : decode cX11_holes 8 = .ok (.iaload, 1) := by decide +kernel
theorem dX11_holes_9 : decode cX11_holes 9 = .ok (.ifCond .ne 7, 3) := by decide +kernel
theorem dX11_holes_12 : decode cX11_holes 12 = .ok (.iconst 0, 1) := by decide +kernel
theorem dX11_holes_13 : decode cX11_holes 13 = .ok (.goto 12, 3) := by decide +kernel
theorem dX11_holes_16 : decode cX11_holes 16 = .ok (.aload_n 0, 1) := by decide +kernel
theorem dX11_holes_17 : decode cX11_holes 17 = .ok (.getfield 65, 3) := by decide +kernel
theorem dX11_holes_20 : decode cX11_holes 20 = .ok (.aload_n 0, 1) := by decide +kernel
theorem dX11_holes_21 : decode cX11_holes 21 = .ok (.getfield 142, 3) := by decide +kernel
theorem dX11_holes_24 : decode cX11_holes 24 = .ok (.iaload, 1) := by decide +kernel
theorem dX11_holes_25 : decode cX11_holes 25 = .ok (.ireturn, 1) := by decide +kernel
theorem dX11_asked_0 : decode cX11_asked 0 = .ok (.aload_n 0, 1) := by decide +kernel
theorem dX11_asked_1 : decode cX11_asked 1 = .ok (.iload_n 1, 1) := by decide +kernel
theorem dX11_asked_2 : decode cX11_asked 2 = .ok (.invokevirtual 88, 3) := by decide +kernel
theorem dX11_asked_5 : decode cX11_asked 5 = .ok (.ifCond .eq 12, 3) := by decide +kernel
theorem dX11_asked_8 : decode cX11_asked 8 = .ok (.aload_n 0, 1) := by decide +kernel
theorem dX11_asked_9 : decode cX11_asked 9 = .ok (.getfield 29, 3) := by decide +kernel
theorem dX11_asked_12 : decode cX11_asked 12 = .ok (.iload_n 1, 1) := by decide +kernel
theorem dX11_asked_13 : decode cX11_asked 13 = .ok (.iaload, 1) := by decide +kernel
theorem dX11_asked_14 : decode cX11_asked 14 = .ok (.goto 5, 3) := by decide +kernel
theorem dX11_asked_17 : decode cX11_asked 17 = .ok (.ldc 92, 2) := by decide +kernel
theorem dX11_asked_19 : decode cX11_asked 19 = .ok (.ireturn, 1) := by decide +kernel
theorem dX11_tells_0 : decode cX11_tells 0 = .ok (.aload_n 0, 1) := by decide +kernel
theorem dX11_tells_1 : decode cX11_tells 1 = .ok (.iload_n 1, 1) := by decide +kernel
theorem dX11_tells_2 : decode cX11_tells 2 = .ok (.invokevirtual 88, 3) := by decide +kernel
theorem dX11_tells_5 : decode cX11_tells 5 = .ok (.ifCond .ne 6, 3) := by decide +kernel
theorem dX11_tells_8 : decode cX11_tells 8 = .ok (.ldc 92, 2) := by decide +kernel
theorem dX11_tells_10 : decode cX11_tells 10 = .ok (.ireturn, 1) := by decide +kernel
theorem dX11_tells_11 : decode cX11_tells 11 = .ok (.iload_n 2, 1) := by decide +kernel
theorem dX11_tells_12 : decode cX11_tells 12 = .ok (.iconst 0, 1) := by decide +kernel
theorem dX11_tells_13 : decode cX11_tells 13 = .ok (.iconst 2, 1) := by decide +kernel
theorem dX11_tells_14 : decode cX11_tells 14 = .ok (.invokestatic 81, 3) := by decide +kernel
theorem dX11_tells_17 : decode cX11_tells 17 = .ok (.ifCond .ne 6, 3) := by decide +kernel
theorem dX11_tells_20 : decode cX11_tells 20 = .ok (.ldc 85, 2) := by decide +kernel
theorem dX11_tells_22 : decode cX11_tells 22 = .ok (.ireturn, 1) := by decide +kernel
theorem dX11_tells_23 : decode cX11_tells 23 = .ok (.iload_n 2, 1) := by decide +kernel
theorem dX11_tells_24 : decode cX11_tells 24 = .ok (.ifCond .ne 11, 3) := by decide +kernel
theorem dX11_tells_27 : decode cX11_tells 27 = .ok (.aload_n 0, 1) := by decide +kernel
theorem dX11_tells_28 : decode cX11_tells 28 = .ok (.iload_n 1, 1) := by decide +kernel
theorem dX11_tells_29 : decode cX11_tells 29 = .ok (.invokevirtual 117, 3) := by decide +kernel
theorem dX11_tells_32 : decode cX11_tells 32 = .ok (.goto 35, 3) := by decide +kernel
theorem dX11_tells_35 : decode cX11_tells 35 = .ok (.iload_n 2, 1) := by decide +kernel
theorem dX11_tells_36 : decode cX11_tells 36 = .ok (.iconst 1, 1) := by decide +kernel
theorem dX11_tells_37 : decode cX11_tells 37 = .ok (.if_icmp .ne 11, 3) := by decide +kernel
theorem dX11_tells_40 : decode cX11_tells 40 = .ok (.aload_n 0, 1) := by decide +kernel
theorem dX11_tells_41 : decode cX11_tells 41 = .ok (.iload_n 1, 1) := by decide +kernel
theorem dX11_tells_42 : decode cX11_tells 42 = .ok (.invokevirtual 125, 3) := by decide +kernel
theorem dX11_tells_45 : decode cX11_tells 45 = .ok (.goto 22, 3) := by decide +kernel
theorem dX11_tells_48 : decode cX11_tells 48 = .ok (.aload_n 0, 1) := by decide +kernel
theorem dX11_tells_49 : decode cX11_tells 49 = .ok (.getfield 7, 3) := by decide +kernel
theorem dX11_tells_52 : decode cX11_tells 52 = .ok (.iload_n 1, 1) := by decide +kernel
theorem dX11_tells_53 : decode cX11_tells 53 = .ok (.iaload, 1) := by decide +kernel
theorem dX11_tells_54 : decode cX11_tells 54 = .ok (.iconst 2, 1) := by decide +kernel
theorem dX11_tells_55 : decode cX11_tells 55 = .ok (.if_icmp .ne 7, 3) := by decide +kernel
theorem dX11_tells_58 : decode cX11_tells 58 = .ok (.iconst 0, 1) := by decide +kernel
theorem dX11_tells_59 : decode cX11_tells 59 = .ok (.goto 8, 3) := by decide +kernel
theorem dX11_tells_62 : decode cX11_tells 62 = .ok (.aload_n 0, 1) := by decide +kernel
theorem dX11_tells_63 : decode cX11_tells 63 = .ok (.iload_n 1, 1) := by decide +kernel
theorem dX11_tells_64 : decode cX11_tells 64 = .ok (.invokevirtual 128, 3) := by decide +kernel
theorem dX11_tells_67 : decode cX11_tells 67 = .ok (.istore_n 3, 1) := by decide +kernel
theorem dX11_tells_68 : decode cX11_tells 68 = .ok (.iload_n 3, 1) := by decide +kernel
theorem dX11_tells_69 : decode cX11_tells 69 = .ok (.ifCond .le 10, 3) := by decide +kernel
theorem dX11_tells_72 : decode cX11_tells 72 = .ok (.ldc 116, 2) := by decide +kernel
theorem dX11_tells_74 : decode cX11_tells 74 = .ok (.iload_n 3, 1) := by decide +kernel
theorem dX11_tells_75 : decode cX11_tells 75 = .ok (.isub, 1) := by decide +kernel
theorem dX11_tells_76 : decode cX11_tells 76 = .ok (.goto 33, 3) := by decide +kernel
theorem dX11_tells_79 : decode cX11_tells 79 = .ok (.iload_n 2, 1) := by decide +kernel
theorem dX11_tells_80 : decode cX11_tells 80 = .ok (.iconst 2, 1) := by decide +kernel
theorem dX11_tells_81 : decode cX11_tells 81 = .ok (.if_icmp .ge 10, 3) := by decide +kernel
theorem dX11_tells_84 : decode cX11_tells 84 = .ok (.aload_n 0, 1) := by decide +kernel
theorem dX11_tells_85 : decode cX11_tells 85 = .ok (.getfield 98, 3) := by decide +kernel
theorem dX11_tells_88 : decode cX11_tells 88 = .ok (.goto 21, 3) := by decide +kernel
theorem dX11_tells_91 : decode cX11_tells 91 = .ok (.aload_n 0, 1) := by decide +kernel
theorem dX11_tells_92 : decode cX11_tells 92 = .ok (.getfield 7, 3) := by decide +kernel
theorem dX11_tells_95 : decode cX11_tells 95 = .ok (.iload_n 1, 1) := by decide +kernel
theorem dX11_tells_96 : decode cX11_tells 96 = .ok (.iaload, 1) := by decide +kernel
theorem dX11_tells_97 : decode cX11_tells 97 = .ok (.iconst 2, 1) := by decide +kernel
theorem dX11_tells_98 : decode cX11_tells 98 = .ok (.if_icmp .ne 7, 3) := by decide +kernel
theorem dX11_tells_101 : decode cX11_tells 101 = .ok (.iconst 2, 1) := by decide +kernel
theorem dX11_tells_102 : decode cX11_tells 102 = .ok (.goto 7, 3) := by decide +kernel
theorem dX11_tells_105 : decode cX11_tells 105 = .ok (.aload_n 0, 1) := by decide +kernel
theorem dX11_tells_106 : decode cX11_tells 106 = .ok (.getfield 101, 3) := by decide +kernel
theorem dX11_tells_109 : decode cX11_tells 109 = .ok (.ireturn, 1) := by decide +kernel
theorem dX11_is_0 : decode cX11_is 0 = .ok (.aload_n 0, 1) := by decide +kernel
theorem dX11_is_1 : decode cX11_is 1 = .ok (.iload_n 1, 1) := by decide +kernel
theorem dX11_is_2 : decode cX11_is 2 = .ok (.invokevirtual 88, 3) := by decide +kernel
theorem dX11_is_5 : decode cX11_is 5 = .ok (.ifCond .ne 6, 3) := by decide +kernel
theorem dX11_is_8 : decode cX11_is 8 = .ok (.ldc 92, 2) := by decide +kernel
theorem dX11_is_10 : decode cX11_is 10 = .ok (.ireturn, 1) := by decide +kernel
theorem dX11_is_11 : decode cX11_is 11 = .ok (.aload_n 0, 1) := by decide +kernel
theorem dX11_is_12 : decode cX11_is 12 = .ok (.getfield 7, 3) := by decide +kernel
theorem dX11_is_15 : decode cX11_is 15 = .ok (.iload_n 1, 1) := by decide +kernel
theorem dX11_is_16 : decode cX11_is 16 = .ok (.iaload, 1) := by decide +kernel
theorem dX11_is_17 : decode cX11_is 17 = .ok (.istore_n 3, 1) := by decide +kernel
theorem dX11_is_18 : decode cX11_is 18 = .ok (.iload_n 2, 1) := by decide +kernel
theorem dX11_is_19 : decode cX11_is 19 = .ok (.ifCond .ne 16, 3) := by decide +kernel
theorem dX11_is_22 : decode cX11_is 22 = .ok (.iload_n 3, 1) := by decide +kernel
theorem dX11_is_23 : decode cX11_is 23 = .ok (.iconst 2, 1) := by decide +kernel
theorem dX11_is_24 : decode cX11_is 24 = .ok (.if_icmp .eq 7, 3) := by decide +kernel
theorem dX11_is_27 : decode cX11_is 27 = .ok (.iconst 1, 1) := by decide +kernel
theorem dX11_is_28 : decode cX11_is 28 = .ok (.goto 45, 3) := by decide +kernel
theorem dX11_is_31 : decode cX11_is 31 = .ok (.iconst 0, 1) := by decide +kernel
theorem dX11_is_32 : decode cX11_is 32 = .ok (.goto 41, 3) := by decide +kernel
theorem dX11_is_35 : decode cX11_is 35 = .ok (.iload_n 2, 1) := by decide +kernel
theorem dX11_is_36 : decode cX11_is 36 = .ok (.iconst 1, 1) := by decide +kernel
theorem dX11_is_37 : decode cX11_is 37 = .ok (.if_icmp .ne 26, 3) := by decide +kernel
theorem dX11_is_40 : decode cX11_is 40 = .ok (.iload_n 3, 1) := by decide +kernel
theorem dX11_is_41 : decode cX11_is 41 = .ok (.iconst 1, 1) := by decide +kernel
theorem dX11_is_42 : decode cX11_is 42 = .ok (.if_icmp .eq 13, 3) := by decide +kernel
theorem dX11_is_45 : decode cX11_is 45 = .ok (.iload_n 3, 1) := by decide +kernel
theorem dX11_is_46 : decode cX11_is 46 = .ok (.iconst 4, 1) := by decide +kernel
theorem dX11_is_47 : decode cX11_is 47 = .ok (.if_icmp .eq 8, 3) := by decide +kernel
theorem dX11_is_50 : decode cX11_is 50 = .ok (.iload_n 3, 1) := by decide +kernel
theorem dX11_is_51 : decode cX11_is 51 = .ok (.iconst 5, 1) := by decide +kernel
theorem dX11_is_52 : decode cX11_is 52 = .ok (.if_icmp .ne 7, 3) := by decide +kernel
theorem dX11_is_55 : decode cX11_is 55 = .ok (.iconst 1, 1) := by decide +kernel
theorem dX11_is_56 : decode cX11_is 56 = .ok (.goto 17, 3) := by decide +kernel
theorem dX11_is_59 : decode cX11_is 59 = .ok (.iconst 0, 1) := by decide +kernel
theorem dX11_is_60 : decode cX11_is 60 = .ok (.goto 13, 3) := by decide +kernel
theorem dX11_is_63 : decode cX11_is 63 = .ok (.iload_n 3, 1) := by decide +kernel
theorem dX11_is_64 : decode cX11_is 64 = .ok (.iconst 2, 1) := by decide +kernel
theorem dX11_is_65 : decode cX11_is 65 = .ok (.if_icmp .ne 7, 3) := by decide +kernel
theorem dX11_is_68 : decode cX11_is 68 = .ok (.iconst 1, 1) := by decide +kernel
theorem dX11_is_69 : decode cX11_is 69 = .ok (.goto 4, 3) := by decide +kernel
theorem dX11_is_72 : decode cX11_is 72 = .ok (.iconst 0, 1) := by decide +kernel
theorem dX11_is_73 : decode cX11_is 73 = .ok (.istore 4, 2) := by decide +kernel
theorem dX11_is_75 : decode cX11_is 75 = .ok (.iload_n 2, 1) := by decide +kernel
theorem dX11_is_76 : decode cX11_is 76 = .ok (.iconst 0, 1) := by decide +kernel
theorem dX11_is_77 : decode cX11_is 77 = .ok (.iconst 2, 1) := by decide +kernel
theorem dX11_is_78 : decode cX11_is 78 = .ok (.invokestatic 81, 3) := by decide +kernel
theorem dX11_is_81 : decode cX11_is 81 = .ok (.ifCond .ne 8, 3) := by decide +kernel
theorem dX11_is_84 : decode cX11_is 84 = .ok (.ldc 85, 2) := by decide +kernel
theorem dX11_is_86 : decode cX11_is 86 = .ok (.goto 13, 3) := by decide +kernel
theorem dX11_is_89 : decode cX11_is 89 = .ok (.iload 4, 2) := by decide +kernel
theorem dX11_is_91 : decode cX11_is 91 = .ok (.ifCond .eq 7, 3) := by decide +kernel
theorem dX11_is_94 : decode cX11_is 94 = .ok (.iconst 1, 1) := by decide +kernel
theorem dX11_is_95 : decode cX11_is 95 = .ok (.goto 4, 3) := by decide +kernel
theorem dX11_is_98 : decode cX11_is 98 = .ok (.iconst 0, 1) := by decide +kernel
theorem dX11_is_99 : decode cX11_is 99 = .ok (.ireturn, 1) := by decide +kernel
theorem dX11_count_0 : decode cX11_count 0 = .ok (.iload_n 1, 1) := by decide +kernel
theorem dX11_count_1 : decode cX11_count 1 = .ok (.tableswitch 77 0 3 #[31, 36, 46, 72], 31) := by decide +kernel
theorem dX11_count_32 : decode cX11_count 32 = .ok (.aload_n 0, 1) := by decide +kernel
theorem dX11_count_33 : decode cX11_count 33 = .ok (.getfield 77, 3) := by decide +kernel
theorem dX11_count_36 : decode cX11_count 36 = .ok (.ireturn, 1) := by decide +kernel
theorem dX11_count_37 : decode cX11_count 37 = .ok (.aload_n 0, 1) := by decide +kernel
theorem dX11_count_38 : decode cX11_count 38 = .ok (.getfield 38, 3) := by decide +kernel
theorem dX11_count_41 : decode cX11_count 41 = .ok (.aload_n 0, 1) := by decide +kernel
theorem dX11_count_42 : decode cX11_count 42 = .ok (.getfield 142, 3) := by decide +kernel
theorem dX11_count_45 : decode cX11_count 45 = .ok (.iaload, 1) := by decide +kernel
theorem dX11_count_46 : decode cX11_count 46 = .ok (.ireturn, 1) := by decide +kernel
theorem dX11_count_47 : decode cX11_count 47 = .ok (.aload_n 0, 1) := by decide +kernel
theorem dX11_count_48 : decode cX11_count 48 = .ok (.getfield 38, 3) := by decide +kernel
theorem dX11_count_51 : decode cX11_count 51 = .ok (.aload_n 0, 1) := by decide +kernel
theorem dX11_count_52 : decode cX11_count 52 = .ok (.getfield 142, 3) := by decide +kernel
theorem dX11_count_55 : decode cX11_count 55 = .ok (.iaload, 1) := by decide +kernel
theorem dX11_count_56 : decode cX11_count 56 = .ok (.ifCond .ne 7, 3) := by decide +kernel
theorem dX11_count_59 : decode cX11_count 59 = .ok (.iconst 0, 1) := by decide +kernel
theorem dX11_count_60 : decode cX11_count 60 = .ok (.goto 12, 3) := by decide +kernel
theorem dX11_count_63 : decode cX11_count 63 = .ok (.aload_n 0, 1) := by decide +kernel
theorem dX11_count_64 : decode cX11_count 64 = .ok (.getfield 53, 3) := by decide +kernel
theorem dX11_count_67 : decode cX11_count 67 = .ok (.aload_n 0, 1) := by decide +kernel
theorem dX11_count_68 : decode cX11_count 68 = .ok (.getfield 142, 3) := by decide +kernel
theorem dX11_count_71 : decode cX11_count 71 = .ok (.iaload, 1) := by decide +kernel
theorem dX11_count_72 : decode cX11_count 72 = .ok (.ireturn, 1) := by decide +kernel
theorem dX11_count_73 : decode cX11_count 73 = .ok (.aload_n 0, 1) := by decide +kernel
theorem dX11_count_74 : decode cX11_count 74 = .ok (.getfield 113, 3) := by decide +kernel
theorem dX11_count_77 : decode cX11_count 77 = .ok (.ireturn, 1) := by decide +kernel
theorem dX11_count_78 : decode cX11_count 78 = .ok (.ldc 85, 2) := by decide +kernel
theorem dX11_count_80 : decode cX11_count 80 = .ok (.ireturn, 1) := by decide +kernel
theorem dX11_beginAll_0 : decode cX11_beginAll 0 = .ok (.aload_n 0, 1) := by decide +kernel
theorem dX11_beginAll_1 : decode cX11_beginAll 1 = .ok (.iconst 0, 1) := by decide +kernel
theorem dX11_beginAll_2 : decode cX11_beginAll 2 = .ok (.putfield 77, 3) := by decide +kernel
theorem dX11_beginAll_5 : decode cX11_beginAll 5 = .ok (.aload_n 0, 1) := by decide +kernel
theorem dX11_beginAll_6 : decode cX11_beginAll 6 = .ok (.getfield 38, 3) := by decide +kernel
theorem dX11_beginAll_9 : decode cX11_beginAll 9 = .ok (.aload_n 0, 1) := by decide +kernel
theorem dX11_beginAll_10 : decode cX11_beginAll 10 = .ok (.getfield 142, 3) := by decide +kernel
theorem dX11_beginAll_13 : decode cX11_beginAll 13 = .ok (.iconst 0, 1) := by decide +kernel
theorem dX11_beginAll_14 : decode cX11_beginAll 14 = .ok (.iastore, 1) := by decide +kernel
theorem dX11_beginAll_15 : decode cX11_beginAll 15 = .ok (.aload_n 0, 1) := by decide +kernel
theorem dX11_beginAll_16 : decode cX11_beginAll 16 = .ok (.iconst 0, 1) := by decide +kernel
theorem dX11_beginAll_17 : decode cX11_beginAll 17 = .ok (.putfield 113, 3) := by decide +kernel
theorem dX11_beginAll_20 : decode cX11_beginAll 20 = .ok (.aload_n 0, 1) := by decide +kernel
theorem dX11_beginAll_21 : decode cX11_beginAll 21 = .ok (.iconst 0, 1) := by decide +kernel
theorem dX11_beginAll_22 : decode cX11_beginAll 22 = .ok (.putfield 110, 3) := by decide +kernel
theorem dX11_beginAll_25 : decode cX11_beginAll 25 = .ok (.return_, 1) := by decide +kernel
theorem dX11_clear_0 : decode cX11_clear 0 = .ok (.aload_n 0, 1) := by decide +kernel
theorem dX11_clear_1 : decode cX11_clear 1 = .ok (.getfield 77, 3) := by decide +kernel
theorem dX11_clear_4 : decode cX11_clear 4 = .ok (.istore_n 1, 1) := by decide +kernel
theorem dX11_clear_5 : decode cX11_clear 5 = .ok (.aload_n 0, 1) := by decide +kernel
theorem dX11_clear_6 : decode cX11_clear 6 = .ok (.invokevirtual 74, 3) := by decide +kernel
theorem dX11_clear_9 : decode cX11_clear 9 = .ok (.iload_n 1, 1) := by decide +kernel
theorem dX11_clear_10 : decode cX11_clear 10 = .ok (.ireturn, 1) := by decide +kernel
theorem dJ7_fill_53178_0 : decode cJ7_fill_53178 0 = .ok (.iconst 0, 1) := by decide +kernel
theorem dJ7_fill_53178_1 : decode cJ7_fill_53178 1 = .ok (.istore_n 2, 1) := by decide +kernel
theorem dJ7_fill_53178_2 : decode cJ7_fill_53178 2 = .ok (.aload_n 0, 1) := by decide +kernel
theorem dJ7_fill_53178_3 : decode cJ7_fill_53178 3 = .ok (.arraylength, 1) := by decide +kernel
theorem dJ7_fill_53178_4 : decode cJ7_fill_53178 4 = .ok (.istore_n 3, 1) := by decide +kernel
theorem dJ7_fill_53178_5 : decode cJ7_fill_53178 5 = .ok (.iload_n 2, 1) := by decide +kernel
theorem dJ7_fill_53178_6 : decode cJ7_fill_53178 6 = .ok (.iload_n 3, 1) := by decide +kernel
theorem dJ7_fill_53178_7 : decode cJ7_fill_53178 7 = .ok (.if_icmp .ge 13, 3) := by decide +kernel
theorem dJ7_fill_53178_10 : decode cJ7_fill_53178 10 = .ok (.aload_n 0, 1) := by decide +kernel
theorem dJ7_fill_53178_11 : decode cJ7_fill_53178 11 = .ok (.iload_n 2, 1) := by decide +kernel
theorem dJ7_fill_53178_12 : decode cJ7_fill_53178 12 = .ok (.iload_n 1, 1) := by decide +kernel
theorem dJ7_fill_53178_13 : decode cJ7_fill_53178 13 = .ok (.iastore, 1) := by decide +kernel
theorem dJ7_fill_53178_14 : decode cJ7_fill_53178 14 = .ok (.iinc 2 1, 3) := by decide +kernel
theorem dJ7_fill_53178_17 : decode cJ7_fill_53178 17 = .ok (.goto (-12), 3) := by decide +kernel
theorem dJ7_fill_53178_20 : decode cJ7_fill_53178 20 = .ok (.return_, 1) := by decide +kernel
theorem dL_law_0 : decode cL_law 0 = .ok (.new 7, 3) := by decide +kernel
theorem dL_law_3 : decode cL_law 3 = .ok (.dup, 1) := by decide +kernel
theorem dL_law_4 : decode cL_law 4 = .ok (.invokespecial 9, 3) := by decide +kernel
theorem dL_law_7 : decode cL_law 7 = .ok (.astore_n 1, 1) := by decide +kernel
theorem dL_law_8 : decode cL_law 8 = .ok (.new 10, 3) := by decide +kernel
theorem dL_law_11 : decode cL_law 11 = .ok (.dup, 1) := by decide +kernel
theorem dL_law_12 : decode cL_law 12 = .ok (.invokespecial 12, 3) := by decide +kernel
theorem dL_law_15 : decode cL_law 15 = .ok (.astore_n 2, 1) := by decide +kernel
theorem dL_law_16 : decode cL_law 16 = .ok (.iconst 0, 1) := by decide +kernel
theorem dL_law_17 : decode cL_law 17 = .ok (.istore_n 3, 1) := by decide +kernel
theorem dL_law_18 : decode cL_law 18 = .ok (.iload_n 3, 1) := by decide +kernel
theorem dL_law_19 : decode cL_law 19 = .ok (.aload_n 0, 1) := by decide +kernel
theorem dL_law_20 : decode cL_law 20 = .ok (.arraylength, 1) := by decide +kernel
theorem dL_law_21 : decode cL_law 21 = .ok (.bipush 6, 2) := by decide +kernel
theorem dL_law_23 : decode cL_law 23 = .ok (.isub, 1) := by decide +kernel
theorem dL_law_24 : decode cL_law 24 = .ok (.if_icmp .gt 789, 3) := by decide +kernel
theorem dL_law_27 : decode cL_law 27 = .ok (.aload_n 0, 1) := by decide +kernel
theorem dL_law_28 : decode cL_law 28 = .ok (.iload_n 3, 1) := by decide +kernel
theorem dL_law_29 : decode cL_law 29 = .ok (.iaload, 1) := by decide +kernel
theorem dL_law_30 : decode cL_law 30 = .ok (.bipush 31, 2) := by decide +kernel
theorem dL_law_32 : decode cL_law 32 = .ok (.iand, 1) := by decide +kernel
theorem dL_law_33 : decode cL_law 33 = .ok (.tableswitch 774 0 20 #[99, 142, 175, 208, 241, 284, 333, 396, 445, 468, 491, 514, 537, 560, 603, 636, 649, 672, 705, 738, 761], 99) := by decide +kernel
theorem dL_law_132 : decode cL_law 132 = .ok (.aload_n 1, 1) := by decide +kernel
theorem dL_law_133 : decode cL_law 133 = .ok (.aload_n 0, 1) := by decide +kernel
theorem dL_law_134 : decode cL_law 134 = .ok (.iload_n 3, 1) := by decide +kernel
theorem dL_law_135 : decode cL_law 135 = .ok (.iconst 1, 1) := by decide +kernel
theorem dL_law_136 : decode cL_law 136 = .ok (.iadd, 1) := by decide +kernel
theorem dL_law_137 : decode cL_law 137 = .ok (.iaload, 1) := by decide +kernel
theorem dL_law_138 : decode cL_law 138 = .ok (.aload_n 0, 1) := by decide +kernel
theorem dL_law_139 : decode cL_law 139 = .ok (.iload_n 3, 1) := by decide +kernel
theorem dL_law_140 : decode cL_law 140 = .ok (.iconst 2, 1) := by decide +kernel
theorem dL_law_141 : decode cL_law 141 = .ok (.iadd, 1) := by decide +kernel
theorem dL_law_142 : decode cL_law 142 = .ok (.iaload, 1) := by decide +kernel
theorem dL_law_143 : decode cL_law 143 = .ok (.aload_n 0, 1) := by decide +kernel
theorem dL_law_144 : decode cL_law 144 = .ok (.iload_n 3, 1) := by decide +kernel
theorem dL_law_145 : decode cL_law 145 = .ok (.iconst 3, 1) := by decide +kernel
theorem dL_law_146 : decode cL_law 146 = .ok (.iadd, 1) := by decide +kernel
theorem dL_law_147 : decode cL_law 147 = .ok (.iaload, 1) := by decide +kernel
theorem dL_law_148 : decode cL_law 148 = .ok (.invokevirtual 13, 3) := by decide +kernel
theorem dL_law_151 : decode cL_law 151 = .ok (.aload_n 2, 1) := by decide +kernel
theorem dL_law_152 : decode cL_law 152 = .ok (.aload_n 0, 1) := by decide +kernel
theorem dL_law_153 : decode cL_law 153 = .ok (.iload_n 3, 1) := by decide +kernel
theorem dL_law_154 : decode cL_law 154 = .ok (.iconst 1, 1) := by decide +kernel
theorem dL_law_155 : decode cL_law 155 = .ok (.iadd, 1) := by decide +kernel
theorem dL_law_156 : decode cL_law 156 = .ok (.iaload, 1) := by decide +kernel
theorem dL_law_157 : decode cL_law 157 = .ok (.aload_n 0, 1) := by decide +kernel
theorem dL_law_158 : decode cL_law 158 = .ok (.iload_n 3, 1) := by decide +kernel
theorem dL_law_159 : decode cL_law 159 = .ok (.iconst 2, 1) := by decide +kernel
theorem dL_law_160 : decode cL_law 160 = .ok (.iadd, 1) := by decide +kernel
theorem dL_law_161 : decode cL_law 161 = .ok (.iaload, 1) := by decide +kernel
theorem dL_law_162 : decode cL_law 162 = .ok (.aload_n 0, 1) := by decide +kernel
theorem dL_law_163 : decode cL_law 163 = .ok (.iload_n 3, 1) := by decide +kernel
theorem dL_law_164 : decode cL_law 164 = .ok (.iconst 3, 1) := by decide +kernel
theorem dL_law_165 : decode cL_law 165 = .ok (.iadd, 1) := by decide +kernel
theorem dL_law_166 : decode cL_law 166 = .ok (.iaload, 1) := by decide +kernel
theorem dL_law_167 : decode cL_law 167 = .ok (.invokevirtual 17, 3) := by decide +kernel
theorem dL_law_170 : decode cL_law 170 = .ok (.if_icmp .eq 637, 3) := by decide +kernel
theorem dL_law_173 : decode cL_law 173 = .ok (.iconst 0, 1) := by decide +kernel
theorem dL_law_174 : decode cL_law 174 = .ok (.ireturn, 1) := by decide +kernel
theorem dL_law_175 : decode cL_law 175 = .ok (.aload_n 1, 1) := by decide +kernel
theorem dL_law_176 : decode cL_law 176 = .ok (.aload_n 0, 1) := by decide +kernel
theorem dL_law_177 : decode cL_law 177 = .ok (.iload_n 3, 1) := by decide +kernel
theorem dL_law_178 : decode cL_law 178 = .ok (.iconst 1, 1) := by decide +kernel
theorem dL_law_179 : decode cL_law 179 = .ok (.iadd, 1) := by decide +kernel
theorem dL_law_180 : decode cL_law 180 = .ok (.iaload, 1) := by decide +kernel
theorem dL_law_181 : decode cL_law 181 = .ok (.aload_n 0, 1) := by decide +kernel
theorem dL_law_182 : decode cL_law 182 = .ok (.iload_n 3, 1) := by decide +kernel
theorem dL_law_183 : decode cL_law 183 = .ok (.iconst 2, 1) := by decide +kernel
theorem dL_law_184 : decode cL_law 184 = .ok (.iadd, 1) := by decide +kernel
theorem dL_law_185 : decode cL_law 185 = .ok (.iaload, 1) := by decide +kernel
theorem dL_law_186 : decode cL_law 186 = .ok (.invokevirtual 18, 3) := by decide +kernel
theorem dL_law_189 : decode cL_law 189 = .ok (.aload_n 2, 1) := by decide +kernel
theorem dL_law_190 : decode cL_law 190 = .ok (.aload_n 0, 1) := by decide +kernel
theorem dL_law_191 : decode cL_law 191 = .ok (.iload_n 3, 1) := by decide +kernel
theorem dL_law_192 : decode cL_law 192 = .ok (.iconst 1, 1) := by decide +kernel
theorem dL_law_193 : decode cL_law 193 = .ok (.iadd, 1) := by decide +kernel
theorem dL_law_194 : decode cL_law 194 = .ok (.iaload, 1) := by decide +kernel
theorem dL_law_195 : decode cL_law 195 = .ok (.aload_n 0, 1) := by decide +kernel
theorem dL_law_196 : decode cL_law 196 = .ok (.iload_n 3, 1) := by decide +kernel
theorem dL_law_197 : decode cL_law 197 = .ok (.iconst 2, 1) := by decide +kernel
theorem dL_law_198 : decode cL_law 198 = .ok (.iadd, 1) := by decide +kernel
theorem dL_law_199 : decode cL_law 199 = .ok (.iaload, 1) := by decide +kernel
theorem dL_law_200 : decode cL_law 200 = .ok (.invokevirtual 22, 3) := by decide +kernel
theorem dL_law_203 : decode cL_law 203 = .ok (.if_icmp .eq 604, 3) := by decide +kernel
theorem dL_law_206 : decode cL_law 206 = .ok (.iconst 0, 1) := by decide +kernel
theorem dL_law_207 : decode cL_law 207 = .ok (.ireturn, 1) := by decide +kernel
theorem dL_law_208 : decode cL_law 208 = .ok (.aload_n 1, 1) := by decide +kernel
theorem dL_law_209 : decode cL_law 209 = .ok (.aload_n 0, 1) := by decide +kernel
theorem dL_law_210 : decode cL_law 210 = .ok (.iload_n 3, 1) := by decide +kernel
theorem dL_law_211 : decode cL_law 211 = .ok (.iconst 1, 1) := by decide +kernel
theorem dL_law_212 : decode cL_law 212 = .ok (.iadd, 1) := by decide +kernel
theorem dL_law_213 : decode cL_law 213 = .ok (.iaload, 1) := by decide +kernel
theorem dL_law_214 : decode cL_law 214 = .ok (.aload_n 0, 1) := by decide +kernel
theorem dL_law_215 : decode cL_law 215 = .ok (.iload_n 3, 1) := by decide +kernel
theorem dL_law_216 : decode cL_law 216 = .ok (.iconst 2, 1) := by decide +kernel
theorem dL_law_217 : decode cL_law 217 = .ok (.iadd, 1) := by decide +kernel
theorem dL_law_218 : decode cL_law 218 = .ok (.iaload, 1) := by decide +kernel
theorem dL_law_219 : decode cL_law 219 = .ok (.invokevirtual 23, 3) := by decide +kernel
theorem dL_law_222 : decode cL_law 222 = .ok (.aload_n 2, 1) := by decide +kernel
theorem dL_law_223 : decode cL_law 223 = .ok (.aload_n 0, 1) := by decide +kernel
theorem dL_law_224 : decode cL_law 224 = .ok (.iload_n 3, 1) := by decide +kernel
theorem dL_law_225 : decode cL_law 225 = .ok (.iconst 1, 1) := by decide +kernel
theorem dL_law_226 : decode cL_law 226 = .ok (.iadd, 1) := by decide +kernel
theorem dL_law_227 : decode cL_law 227 = .ok (.iaload, 1) := by decide +kernel
theorem dL_law_228 : decode cL_law 228 = .ok (.aload_n 0, 1) := by decide +kernel
theorem dL_law_229 : decode cL_law 229 = .ok (.iload_n 3, 1) := by decide +kernel
theorem dL_law_230 : decode cL_law 230 = .ok (.iconst 2, 1) := by decide +kernel
theorem dL_law_231 : decode cL_law 231 = .ok (.iadd, 1) := by decide +kernel
theorem dL_law_232 : decode cL_law 232 = .ok (.iaload, 1) := by decide +kernel
theorem dL_law_233 : decode cL_law 233 = .ok (.invokevirtual 26, 3) := by decide +kernel
theorem dL_law_236 : decode cL_law 236 = .ok (.if_icmp .eq 571, 3) := by decide +kernel
theorem dL_law_239 : decode cL_law 239 = .ok (.iconst 0, 1) := by decide +kernel
theorem dL_law_240 : decode cL_law 240 = .ok (.ireturn, 1) := by decide +kernel
theorem dL_law_241 : decode cL_law 241 = .ok (.aload_n 1, 1) := by decide +kernel
theorem dL_law_242 : decode cL_law 242 = .ok (.aload_n 0, 1) := by decide +kernel
theorem dL_law_243 : decode cL_law 243 = .ok (.iload_n 3, 1) := by decide +kernel
theorem dL_law_244 : decode cL_law 244 = .ok (.iconst 1, 1) := by decide +kernel
theorem dL_law_245 : decode cL_law 245 = .ok (.iadd, 1) := by decide +kernel
theorem dL_law_246 : decode cL_law 246 = .ok (.iaload, 1) := by decide +kernel
theorem dL_law_247 : decode cL_law 247 = .ok (.aload_n 0, 1) := by decide +kernel
theorem dL_law_248 : decode cL_law 248 = .ok (.iload_n 3, 1) := by decide +kernel
theorem dL_law_249 : decode cL_law 249 = .ok (.iconst 2, 1) := by decide +kernel
theorem dL_law_250 : decode cL_law 250 = .ok (.iadd, 1) := by decide +kernel
theorem dL_law_251 : decode cL_law 251 = .ok (.iaload, 1) := by decide +kernel
theorem dL_law_252 : decode cL_law 252 = .ok (.invokevirtual 27, 3) := by decide +kernel
theorem dL_law_255 : decode cL_law 255 = .ok (.aload_n 2, 1) := by decide +kernel
theorem dL_law_256 : decode cL_law 256 = .ok (.aload_n 0, 1) := by decide +kernel
theorem dL_law_257 : decode cL_law 257 = .ok (.iload_n 3, 1) := by decide +kernel
theorem dL_law_258 : decode cL_law 258 = .ok (.iconst 1, 1) := by decide +kernel
theorem dL_law_259 : decode cL_law 259 = .ok (.iadd, 1) := by decide +kernel
theorem dL_law_260 : decode cL_law 260 = .ok (.iaload, 1) := by decide +kernel
theorem dL_law_261 : decode cL_law 261 = .ok (.aload_n 0, 1) := by decide +kernel
theorem dL_law_262 : decode cL_law 262 = .ok (.iload_n 3, 1) := by decide +kernel
theorem dL_law_263 : decode cL_law 263 = .ok (.iconst 2, 1) := by decide +kernel
theorem dL_law_264 : decode cL_law 264 = .ok (.iadd, 1) := by decide +kernel
theorem dL_law_265 : decode cL_law 265 = .ok (.iaload, 1) := by decide +kernel
theorem dL_law_266 : decode cL_law 266 = .ok (.invokevirtual 30, 3) := by decide +kernel
theorem dL_law_269 : decode cL_law 269 = .ok (.if_icmp .eq 538, 3) := by decide +kernel
theorem dL_law_272 : decode cL_law 272 = .ok (.iconst 0, 1) := by decide +kernel
theorem dL_law_273 : decode cL_law 273 = .ok (.ireturn, 1) := by decide +kernel
theorem dL_law_274 : decode cL_law 274 = .ok (.aload_n 1, 1) := by decide +kernel
theorem dL_law_275 : decode cL_law 275 = .ok (.aload_n 0, 1) := by decide +kernel
theorem dL_law_276 : decode cL_law 276 = .ok (.iload_n 3, 1) := by decide +kernel
theorem dL_law_277 : decode cL_law 277 = .ok (.iconst 1, 1) := by decide +kernel
theorem dL_law_278 : decode cL_law 278 = .ok (.iadd, 1) := by decide +kernel
theorem dL_law_279 : decode cL_law 279 = .ok (.iaload, 1) := by decide +kernel
theorem dL_law_280 : decode cL_law 280 = .ok (.aload_n 0, 1) := by decide +kernel
theorem dL_law_281 : decode cL_law 281 = .ok (.iload_n 3, 1) := by decide +kernel
theorem dL_law_282 : decode cL_law 282 = .ok (.iconst 2, 1) := by decide +kernel
theorem dL_law_283 : decode cL_law 283 = .ok (.iadd, 1) := by decide +kernel
theorem dL_law_284 : decode cL_law 284 = .ok (.iaload, 1) := by decide +kernel
theorem dL_law_285 : decode cL_law 285 = .ok (.aload_n 0, 1) := by decide +kernel
theorem dL_law_286 : decode cL_law 286 = .ok (.iload_n 3, 1) := by decide +kernel
theorem dL_law_287 : decode cL_law 287 = .ok (.iconst 3, 1) := by decide +kernel
theorem dL_law_288 : decode cL_law 288 = .ok (.iadd, 1) := by decide +kernel
theorem dL_law_289 : decode cL_law 289 = .ok (.iaload, 1) := by decide +kernel
theorem dL_law_290 : decode cL_law 290 = .ok (.invokevirtual 31, 3) := by decide +kernel
theorem dL_law_293 : decode cL_law 293 = .ok (.aload_n 2, 1) := by decide +kernel
theorem dL_law_294 : decode cL_law 294 = .ok (.aload_n 0, 1) := by decide +kernel
theorem dL_law_295 : decode cL_law 295 = .ok (.iload_n 3, 1) := by decide +kernel
theorem dL_law_296 : decode cL_law 296 = .ok (.iconst 1, 1) := by decide +kernel
theorem dL_law_297 : decode cL_law 297 = .ok (.iadd, 1) := by decide +kernel
theorem dL_law_298 : decode cL_law 298 = .ok (.iaload, 1) := by decide +kernel
theorem dL_law_299 : decode cL_law 299 = .ok (.aload_n 0, 1) := by decide +kernel
theorem dL_law_300 : decode cL_law 300 = .ok (.iload_n 3, 1) := by decide +kernel
theorem dL_law_301 : decode cL_law 301 = .ok (.iconst 2, 1) := by decide +kernel
theorem dL_law_302 : decode cL_law 302 = .ok (.iadd, 1) := by decide +kernel
theorem dL_law_303 : decode cL_law 303 = .ok (.iaload, 1) := by decide +kernel
theorem dL_law_304 : decode cL_law 304 = .ok (.aload_n 0, 1) := by decide +kernel
theorem dL_law_305 : decode cL_law 305 = .ok (.iload_n 3, 1) := by decide +kernel
theorem dL_law_306 : decode cL_law 306 = .ok (.iconst 3, 1) := by decide +kernel
theorem dL_law_307 : decode cL_law 307 = .ok (.iadd, 1) := by decide +kernel
theorem dL_law_308 : decode cL_law 308 = .ok (.iaload, 1) := by decide +kernel
theorem dL_law_309 : decode cL_law 309 = .ok (.invokevirtual 34, 3) := by decide +kernel
theorem dL_law_312 : decode cL_law 312 = .ok (.if_icmp .eq 495, 3) := by decide +kernel
theorem dL_law_315 : decode cL_law 315 = .ok (.iconst 0, 1) := by decide +kernel
theorem dL_law_316 : decode cL_law 316 = .ok (.ireturn, 1) := by decide +kernel
theorem dL_law_317 : decode cL_law 317 = .ok (.aload_n 1, 1) := by decide +kernel
theorem dL_law_318 : decode cL_law 318 = .ok (.aload_n 0, 1) := by decide +kernel
theorem dL_law_319 : decode cL_law 319 = .ok (.iload_n 3, 1) := by decide +kernel
theorem dL_law_320 : decode cL_law 320 = .ok (.iconst 1, 1) := by decide +kernel
theorem dL_law_321 : decode cL_law 321 = .ok (.iadd, 1) := by decide +kernel
theorem dL_law_322 : decode cL_law 322 = .ok (.iaload, 1) := by decide +kernel
theorem dL_law_323 : decode cL_law 323 = .ok (.aload_n 0, 1) := by decide +kernel
theorem dL_law_324 : decode cL_law 324 = .ok (.iload_n 3, 1) := by decide +kernel
theorem dL_law_325 : decode cL_law 325 = .ok (.iconst 2, 1) := by decide +kernel
theorem dL_law_326 : decode cL_law 326 = .ok (.iadd, 1) := by decide +kernel
theorem dL_law_327 : decode cL_law 327 = .ok (.iaload, 1) := by decide +kernel
theorem dL_law_328 : decode cL_law 328 = .ok (.ifCond .eq 7, 3) := by decide +kernel
theorem dL_law_331 : decode cL_law 331 = .ok (.iconst 1, 1) := by decide +kernel
theorem dL_law_332 : decode cL_law 332 = .ok (.goto 4, 3) := by decide +kernel
theorem dL_law_335 : decode cL_law 335 = .ok (.iconst 0, 1) := by decide +kernel
theorem dL_law_336 : decode cL_law 336 = .ok (.invokevirtual 35, 3) := by decide +kernel
theorem dL_law_339 : decode cL_law 339 = .ok (.aload_n 2, 1) := by decide +kernel
theorem dL_law_340 : decode cL_law 340 = .ok (.aload_n 0, 1) := by decide +kernel
theorem dL_law_341 : decode cL_law 341 = .ok (.iload_n 3, 1) := by decide +kernel
theorem dL_law_342 : decode cL_law 342 = .ok (.iconst 1, 1) := by decide +kernel
theorem dL_law_343 : decode cL_law 343 = .ok (.iadd, 1) := by decide +kernel
theorem dL_law_344 : decode cL_law 344 = .ok (.iaload, 1) := by decide +kernel
theorem dL_law_345 : decode cL_law 345 = .ok (.aload_n 0, 1) := by decide +kernel
theorem dL_law_346 : decode cL_law 346 = .ok (.iload_n 3, 1) := by decide +kernel
theorem dL_law_347 : decode cL_law 347 = .ok (.iconst 2, 1) := by decide +kernel
theorem dL_law_348 : decode cL_law 348 = .ok (.iadd, 1) := by decide +kernel
theorem dL_law_349 : decode cL_law 349 = .ok (.iaload, 1) := by decide +kernel
theorem dL_law_350 : decode cL_law 350 = .ok (.ifCond .eq 7, 3) := by decide +kernel
theorem dL_law_353 : decode cL_law 353 = .ok (.iconst 1, 1) := by decide +kernel
theorem dL_law_354 : decode cL_law 354 = .ok (.goto 4, 3) := by decide +kernel
theorem dL_law_357 : decode cL_law 357 = .ok (.iconst 0, 1) := by decide +kernel
theorem dL_law_358 : decode cL_law 358 = .ok (.invokevirtual 39, 3) := by decide +kernel
theorem dL_law_361 : decode cL_law 361 = .ok (.if_icmp .eq 446, 3) := by decide +kernel
theorem dL_law_364 : decode cL_law 364 = .ok (.iconst 0, 1) := by decide +kernel
theorem dL_law_365 : decode cL_law 365 = .ok (.ireturn, 1) := by decide +kernel
theorem dL_law_366 : decode cL_law 366 = .ok (.aload_n 1, 1) := by decide +kernel
theorem dL_law_367 : decode cL_law 367 = .ok (.aload_n 0, 1) := by decide +kernel
theorem dL_law_368 : decode cL_law 368 = .ok (.iload_n 3, 1) := by decide +kernel
theorem dL_law_369 : decode cL_law 369 = .ok (.iconst 1, 1) := by decide +kernel
theorem dL_law_370 : decode cL_law 370 = .ok (.iadd, 1) := by decide +kernel
theorem dL_law_371 : decode cL_law 371 = .ok (.iaload, 1) := by decide +kernel
theorem dL_law_372 : decode cL_law 372 = .ok (.aload_n 0, 1) := by decide +kernel
theorem dL_law_373 : decode cL_law 373 = .ok (.iload_n 3, 1) := by decide +kernel
theorem dL_law_374 : decode cL_law 374 = .ok (.iconst 2, 1) := by decide +kernel
theorem dL_law_375 : decode cL_law 375 = .ok (.iadd, 1) := by decide +kernel
theorem dL_law_376 : decode cL_law 376 = .ok (.iaload, 1) := by decide +kernel
theorem dL_law_377 : decode cL_law 377 = .ok (.aload_n 0, 1) := by decide +kernel
theorem dL_law_378 : decode cL_law 378 = .ok (.iload_n 3, 1) := by decide +kernel
theorem dL_law_379 : decode cL_law 379 = .ok (.iconst 3, 1) := by decide +kernel
theorem dL_law_380 : decode cL_law 380 = .ok (.iadd, 1) := by decide +kernel
theorem dL_law_381 : decode cL_law 381 = .ok (.iaload, 1) := by decide +kernel
theorem dL_law_382 : decode cL_law 382 = .ok (.aload_n 0, 1) := by decide +kernel
theorem dL_law_383 : decode cL_law 383 = .ok (.iload_n 3, 1) := by decide +kernel
theorem dL_law_384 : decode cL_law 384 = .ok (.iconst 4, 1) := by decide +kernel
theorem dL_law_385 : decode cL_law 385 = .ok (.iadd, 1) := by decide +kernel
theorem dL_law_386 : decode cL_law 386 = .ok (.iaload, 1) := by decide +kernel
theorem dL_law_387 : decode cL_law 387 = .ok (.aload_n 0, 1) := by decide +kernel
theorem dL_law_388 : decode cL_law 388 = .ok (.iload_n 3, 1) := by decide +kernel
theorem dL_law_389 : decode cL_law 389 = .ok (.iconst 5, 1) := by decide +kernel
theorem dL_law_390 : decode cL_law 390 = .ok (.iadd, 1) := by decide +kernel
theorem dL_law_391 : decode cL_law 391 = .ok (.iaload, 1) := by decide +kernel
theorem dL_law_392 : decode cL_law 392 = .ok (.invokevirtual 40, 3) := by decide +kernel
theorem dL_law_395 : decode cL_law 395 = .ok (.aload_n 2, 1) := by decide +kernel
theorem dL_law_396 : decode cL_law 396 = .ok (.aload_n 0, 1) := by decide +kernel
theorem dL_law_397 : decode cL_law 397 = .ok (.iload_n 3, 1) := by decide +kernel
theorem dL_law_398 : decode cL_law 398 = .ok (.iconst 1, 1) := by decide +kernel
theorem dL_law_399 : decode cL_law 399 = .ok (.iadd, 1) := by decide +kernel
theorem dL_law_400 : decode cL_law 400 = .ok (.iaload, 1) := by decide +kernel
theorem dL_law_401 : decode cL_law 401 = .ok (.aload_n 0, 1) := by decide +kernel
theorem dL_law_402 : decode cL_law 402 = .ok (.iload_n 3, 1) := by decide +kernel
theorem dL_law_403 : decode cL_law 403 = .ok (.iconst 2, 1) := by decide +kernel
theorem dL_law_404 : decode cL_law 404 = .ok (.iadd, 1) := by decide +kernel
theorem dL_law_405 : decode cL_law 405 = .ok (.iaload, 1) := by decide +kernel
theorem dL_law_406 : decode cL_law 406 = .ok (.aload_n 0, 1) := by decide +kernel
theorem dL_law_407 : decode cL_law 407 = .ok (.iload_n 3, 1) := by decide +kernel
theorem dL_law_408 : decode cL_law 408 = .ok (.iconst 3, 1) := by decide +kernel
theorem dL_law_409 : decode cL_law 409 = .ok (.iadd, 1) := by decide +kernel
theorem dL_law_410 : decode cL_law 410 = .ok (.iaload, 1) := by decide +kernel
theorem dL_law_411 : decode cL_law 411 = .ok (.aload_n 0, 1) := by decide +kernel
theorem dL_law_412 : decode cL_law 412 = .ok (.iload_n 3, 1) := by decide +kernel
theorem dL_law_413 : decode cL_law 413 = .ok (.iconst 4, 1) := by decide +kernel
theorem dL_law_414 : decode cL_law 414 = .ok (.iadd, 1) := by decide +kernel
theorem dL_law_415 : decode cL_law 415 = .ok (.iaload, 1) := by decide +kernel
theorem dL_law_416 : decode cL_law 416 = .ok (.aload_n 0, 1) := by decide +kernel
theorem dL_law_417 : decode cL_law 417 = .ok (.iload_n 3, 1) := by decide +kernel
theorem dL_law_418 : decode cL_law 418 = .ok (.iconst 5, 1) := by decide +kernel
theorem dL_law_419 : decode cL_law 419 = .ok (.iadd, 1) := by decide +kernel
theorem dL_law_420 : decode cL_law 420 = .ok (.iaload, 1) := by decide +kernel
theorem dL_law_421 : decode cL_law 421 = .ok (.invokevirtual 44, 3) := by decide +kernel
theorem dL_law_424 : decode cL_law 424 = .ok (.if_icmp .eq 383, 3) := by decide +kernel
theorem dL_law_427 : decode cL_law 427 = .ok (.iconst 0, 1) := by decide +kernel
theorem dL_law_428 : decode cL_law 428 = .ok (.ireturn, 1) := by decide +kernel
theorem dL_law_429 : decode cL_law 429 = .ok (.aload_n 1, 1) := by decide +kernel
theorem dL_law_430 : decode cL_law 430 = .ok (.aload_n 0, 1) := by decide +kernel
theorem dL_law_431 : decode cL_law 431 = .ok (.iload_n 3, 1) := by decide +kernel
theorem dL_law_432 : decode cL_law 432 = .ok (.iconst 1, 1) := by decide +kernel
theorem dL_law_433 : decode cL_law 433 = .ok (.iadd, 1) := by decide +kernel
theorem dL_law_434 : decode cL_law 434 = .ok (.iaload, 1) := by decide +kernel
theorem dL_law_435 : decode cL_law 435 = .ok (.aload_n 0, 1) := by decide +kernel
theorem dL_law_436 : decode cL_law 436 = .ok (.iload_n 3, 1) := by decide +kernel
theorem dL_law_437 : decode cL_law 437 = .ok (.iconst 2, 1) := by decide +kernel
theorem dL_law_438 : decode cL_law 438 = .ok (.iadd, 1) := by decide +kernel
theorem dL_law_439 : decode cL_law 439 = .ok (.iaload, 1) := by decide +kernel
theorem dL_law_440 : decode cL_law 440 = .ok (.ifCond .eq 7, 3) := by decide +kernel
theorem dL_law_443 : decode cL_law 443 = .ok (.iconst 1, 1) := by decide +kernel
theorem dL_law_444 : decode cL_law 444 = .ok (.goto 4, 3) := by decide +kernel
theorem dL_law_447 : decode cL_law 447 = .ok (.iconst 0, 1) := by decide +kernel
theorem dL_law_448 : decode cL_law 448 = .ok (.invokevirtual 45, 3) := by decide +kernel
theorem dL_law_451 : decode cL_law 451 = .ok (.aload_n 2, 1) := by decide +kernel
theorem dL_law_452 : decode cL_law 452 = .ok (.aload_n 0, 1) := by decide +kernel
theorem dL_law_453 : decode cL_law 453 = .ok (.iload_n 3, 1) := by decide +kernel
theorem dL_law_454 : decode cL_law 454 = .ok (.iconst 1, 1) := by decide +kernel
theorem dL_law_455 : decode cL_law 455 = .ok (.iadd, 1) := by decide +kernel
theorem dL_law_456 : decode cL_law 456 = .ok (.iaload, 1) := by decide +kernel
theorem dL_law_457 : decode cL_law 457 = .ok (.aload_n 0, 1) := by decide +kernel
theorem dL_law_458 : decode cL_law 458 = .ok (.iload_n 3, 1) := by decide +kernel
theorem dL_law_459 : decode cL_law 459 = .ok (.iconst 2, 1) := by decide +kernel
theorem dL_law_460 : decode cL_law 460 = .ok (.iadd, 1) := by decide +kernel
theorem dL_law_461 : decode cL_law 461 = .ok (.iaload, 1) := by decide +kernel
theorem dL_law_462 : decode cL_law 462 = .ok (.ifCond .eq 7, 3) := by decide +kernel
theorem dL_law_465 : decode cL_law 465 = .ok (.iconst 1, 1) := by decide +kernel
theorem dL_law_466 : decode cL_law 466 = .ok (.goto 4, 3) := by decide +kernel
theorem dL_law_469 : decode cL_law 469 = .ok (.iconst 0, 1) := by decide +kernel
theorem dL_law_470 : decode cL_law 470 = .ok (.invokevirtual 48, 3) := by decide +kernel
theorem dL_law_473 : decode cL_law 473 = .ok (.if_icmp .eq 334, 3) := by decide +kernel
theorem dL_law_476 : decode cL_law 476 = .ok (.iconst 0, 1) := by decide +kernel
theorem dL_law_477 : decode cL_law 477 = .ok (.ireturn, 1) := by decide +kernel
theorem dL_law_478 : decode cL_law 478 = .ok (.aload_n 1, 1) := by decide +kernel
theorem dL_law_479 : decode cL_law 479 = .ok (.aload_n 0, 1) := by decide +kernel
theorem dL_law_480 : decode cL_law 480 = .ok (.iload_n 3, 1) := by decide +kernel
theorem dL_law_481 : decode cL_law 481 = .ok (.iconst 1, 1) := by decide +kernel
theorem dL_law_482 : decode cL_law 482 = .ok (.iadd, 1) := by decide +kernel
theorem dL_law_483 : decode cL_law 483 = .ok (.iaload, 1) := by decide +kernel
theorem dL_law_484 : decode cL_law 484 = .ok (.invokevirtual 49, 3) := by decide +kernel
theorem dL_law_487 : decode cL_law 487 = .ok (.aload_n 2, 1) := by decide +kernel
theorem dL_law_488 : decode cL_law 488 = .ok (.aload_n 0, 1) := by decide +kernel
theorem dL_law_489 : decode cL_law 489 = .ok (.iload_n 3, 1) := by decide +kernel
theorem dL_law_490 : decode cL_law 490 = .ok (.iconst 1, 1) := by decide +kernel
theorem dL_law_491 : decode cL_law 491 = .ok (.iadd, 1) := by decide +kernel
theorem dL_law_492 : decode cL_law 492 = .ok (.iaload, 1) := by decide +kernel
theorem dL_law_493 : decode cL_law 493 = .ok (.invokevirtual 53, 3) := by decide +kernel
theorem dL_law_496 : decode cL_law 496 = .ok (.if_icmp .eq 311, 3) := by decide +kernel
theorem dL_law_499 : decode cL_law 499 = .ok (.iconst 0, 1) := by decide +kernel
theorem dL_law_500 : decode cL_law 500 = .ok (.ireturn, 1) := by decide +kernel
theorem dL_law_501 : decode cL_law 501 = .ok (.aload_n 1, 1) := by decide +kernel
theorem dL_law_502 : decode cL_law 502 = .ok (.aload_n 0, 1) := by decide +kernel
theorem dL_law_503 : decode cL_law 503 = .ok (.iload_n 3, 1) := by decide +kernel
theorem dL_law_504 : decode cL_law 504 = .ok (.iconst 1, 1) := by decide +kernel
theorem dL_law_505 : decode cL_law 505 = .ok (.iadd, 1) := by decide +kernel
theorem dL_law_506 : decode cL_law 506 = .ok (.iaload, 1) := by decide +kernel
theorem dL_law_507 : decode cL_law 507 = .ok (.invokevirtual 54, 3) := by decide +kernel
theorem dL_law_510 : decode cL_law 510 = .ok (.aload_n 2, 1) := by decide +kernel
theorem dL_law_511 : decode cL_law 511 = .ok (.aload_n 0, 1) := by decide +kernel
theorem dL_law_512 : decode cL_law 512 = .ok (.iload_n 3, 1) := by decide +kernel
theorem dL_law_513 : decode cL_law 513 = .ok (.iconst 1, 1) := by decide +kernel
theorem dL_law_514 : decode cL_law 514 = .ok (.iadd, 1) := by decide +kernel
theorem dL_law_515 : decode cL_law 515 = .ok (.iaload, 1) := by decide +kernel
theorem dL_law_516 : decode cL_law 516 = .ok (.invokevirtual 57, 3) := by decide +kernel
theorem dL_law_519 : decode cL_law 519 = .ok (.if_icmp .eq 288, 3) := by decide +kernel
theorem dL_law_522 : decode cL_law 522 = .ok (.iconst 0, 1) := by decide +kernel
theorem dL_law_523 : decode cL_law 523 = .ok (.ireturn, 1) := by decide +kernel
theorem dL_law_524 : decode cL_law 524 = .ok (.aload_n 1, 1) := by decide +kernel
theorem dL_law_525 : decode cL_law 525 = .ok (.aload_n 0, 1) := by decide +kernel
theorem dL_law_526 : decode cL_law 526 = .ok (.iload_n 3, 1) := by decide +kernel
theorem dL_law_527 : decode cL_law 527 = .ok (.iconst 1, 1) := by decide +kernel
theorem dL_law_528 : decode cL_law 528 = .ok (.iadd, 1) := by decide +kernel
theorem dL_law_529 : decode cL_law 529 = .ok (.iaload, 1) := by decide +kernel
theorem dL_law_530 : decode cL_law 530 = .ok (.invokevirtual 58, 3) := by decide +kernel
theorem dL_law_533 : decode cL_law 533 = .ok (.aload_n 2, 1) := by decide +kernel
theorem dL_law_534 : decode cL_law 534 = .ok (.aload_n 0, 1) := by decide +kernel
theorem dL_law_535 : decode cL_law 535 = .ok (.iload_n 3, 1) := by decide +kernel
theorem dL_law_536 : decode cL_law 536 = .ok (.iconst 1, 1) := by decide +kernel
theorem dL_law_537 : decode cL_law 537 = .ok (.iadd, 1) := by decide +kernel
theorem dL_law_538 : decode cL_law 538 = .ok (.iaload, 1) := by decide +kernel
theorem dL_law_539 : decode cL_law 539 = .ok (.invokevirtual 61, 3) := by decide +kernel
theorem dL_law_542 : decode cL_law 542 = .ok (.if_icmp .eq 265, 3) := by decide +kernel
theorem dL_law_545 : decode cL_law 545 = .ok (.iconst 0, 1) := by decide +kernel
theorem dL_law_546 : decode cL_law 546 = .ok (.ireturn, 1) := by decide +kernel
theorem dL_law_547 : decode cL_law 547 = .ok (.aload_n 1, 1) := by decide +kernel
theorem dL_law_548 : decode cL_law 548 = .ok (.aload_n 0, 1) := by decide +kernel
theorem dL_law_549 : decode cL_law 549 = .ok (.iload_n 3, 1) := by decide +kernel
theorem dL_law_550 : decode cL_law 550 = .ok (.iconst 1, 1) := by decide +kernel
theorem dL_law_551 : decode cL_law 551 = .ok (.iadd, 1) := by decide +kernel
theorem dL_law_552 : decode cL_law 552 = .ok (.iaload, 1) := by decide +kernel
theorem dL_law_553 : decode cL_law 553 = .ok (.invokevirtual 62, 3) := by decide +kernel
theorem dL_law_556 : decode cL_law 556 = .ok (.aload_n 2, 1) := by decide +kernel
theorem dL_law_557 : decode cL_law 557 = .ok (.aload_n 0, 1) := by decide +kernel
theorem dL_law_558 : decode cL_law 558 = .ok (.iload_n 3, 1) := by decide +kernel
theorem dL_law_559 : decode cL_law 559 = .ok (.iconst 1, 1) := by decide +kernel
theorem dL_law_560 : decode cL_law 560 = .ok (.iadd, 1) := by decide +kernel
theorem dL_law_561 : decode cL_law 561 = .ok (.iaload, 1) := by decide +kernel
theorem dL_law_562 : decode cL_law 562 = .ok (.invokevirtual 65, 3) := by decide +kernel
theorem dL_law_565 : decode cL_law 565 = .ok (.if_icmp .eq 242, 3) := by decide +kernel
theorem dL_law_568 : decode cL_law 568 = .ok (.iconst 0, 1) := by decide +kernel
theorem dL_law_569 : decode cL_law 569 = .ok (.ireturn, 1) := by decide +kernel
theorem dL_law_570 : decode cL_law 570 = .ok (.aload_n 1, 1) := by decide +kernel
theorem dL_law_571 : decode cL_law 571 = .ok (.aload_n 0, 1) := by decide +kernel
theorem dL_law_572 : decode cL_law 572 = .ok (.iload_n 3, 1) := by decide +kernel
theorem dL_law_573 : decode cL_law 573 = .ok (.iconst 1, 1) := by decide +kernel
theorem dL_law_574 : decode cL_law 574 = .ok (.iadd, 1) := by decide +kernel
theorem dL_law_575 : decode cL_law 575 = .ok (.iaload, 1) := by decide +kernel
theorem dL_law_576 : decode cL_law 576 = .ok (.invokevirtual 66, 3) := by decide +kernel
theorem dL_law_579 : decode cL_law 579 = .ok (.aload_n 2, 1) := by decide +kernel
theorem dL_law_580 : decode cL_law 580 = .ok (.aload_n 0, 1) := by decide +kernel
theorem dL_law_581 : decode cL_law 581 = .ok (.iload_n 3, 1) := by decide +kernel
theorem dL_law_582 : decode cL_law 582 = .ok (.iconst 1, 1) := by decide +kernel
theorem dL_law_583 : decode cL_law 583 = .ok (.iadd, 1) := by decide +kernel
theorem dL_law_584 : decode cL_law 584 = .ok (.iaload, 1) := by decide +kernel
theorem dL_law_585 : decode cL_law 585 = .ok (.invokevirtual 69, 3) := by decide +kernel
theorem dL_law_588 : decode cL_law 588 = .ok (.if_icmp .eq 219, 3) := by decide +kernel
theorem dL_law_591 : decode cL_law 591 = .ok (.iconst 0, 1) := by decide +kernel
theorem dL_law_592 : decode cL_law 592 = .ok (.ireturn, 1) := by decide +kernel
theorem dL_law_593 : decode cL_law 593 = .ok (.aload_n 1, 1) := by decide +kernel
theorem dL_law_594 : decode cL_law 594 = .ok (.aload_n 0, 1) := by decide +kernel
theorem dL_law_595 : decode cL_law 595 = .ok (.iload_n 3, 1) := by decide +kernel
theorem dL_law_596 : decode cL_law 596 = .ok (.iconst 1, 1) := by decide +kernel
theorem dL_law_597 : decode cL_law 597 = .ok (.iadd, 1) := by decide +kernel
theorem dL_law_598 : decode cL_law 598 = .ok (.iaload, 1) := by decide +kernel
theorem dL_law_599 : decode cL_law 599 = .ok (.aload_n 0, 1) := by decide +kernel
theorem dL_law_600 : decode cL_law 600 = .ok (.iload_n 3, 1) := by decide +kernel
theorem dL_law_601 : decode cL_law 601 = .ok (.iconst 2, 1) := by decide +kernel
theorem dL_law_602 : decode cL_law 602 = .ok (.iadd, 1) := by decide +kernel
theorem dL_law_603 : decode cL_law 603 = .ok (.iaload, 1) := by decide +kernel
theorem dL_law_604 : decode cL_law 604 = .ok (.aload_n 0, 1) := by decide +kernel
theorem dL_law_605 : decode cL_law 605 = .ok (.iload_n 3, 1) := by decide +kernel
theorem dL_law_606 : decode cL_law 606 = .ok (.iconst 3, 1) := by decide +kernel
theorem dL_law_607 : decode cL_law 607 = .ok (.iadd, 1) := by decide +kernel
theorem dL_law_608 : decode cL_law 608 = .ok (.iaload, 1) := by decide +kernel
theorem dL_law_609 : decode cL_law 609 = .ok (.invokevirtual 70, 3) := by decide +kernel
theorem dL_law_612 : decode cL_law 612 = .ok (.aload_n 2, 1) := by decide +kernel
theorem dL_law_613 : decode cL_law 613 = .ok (.aload_n 0, 1) := by decide +kernel
theorem dL_law_614 : decode cL_law 614 = .ok (.iload_n 3, 1) := by decide +kernel
theorem dL_law_615 : decode cL_law 615 = .ok (.iconst 1, 1) := by decide +kernel
theorem dL_law_616 : decode cL_law 616 = .ok (.iadd, 1) := by decide +kernel
theorem dL_law_617 : decode cL_law 617 = .ok (.iaload, 1) := by decide +kernel
theorem dL_law_618 : decode cL_law 618 = .ok (.aload_n 0, 1) := by decide +kernel
theorem dL_law_619 : decode cL_law 619 = .ok (.iload_n 3, 1) := by decide +kernel
theorem dL_law_620 : decode cL_law 620 = .ok (.iconst 2, 1) := by decide +kernel
theorem dL_law_621 : decode cL_law 621 = .ok (.iadd, 1) := by decide +kernel
theorem dL_law_622 : decode cL_law 622 = .ok (.iaload, 1) := by decide +kernel
theorem dL_law_623 : decode cL_law 623 = .ok (.aload_n 0, 1) := by decide +kernel
theorem dL_law_624 : decode cL_law 624 = .ok (.iload_n 3, 1) := by decide +kernel
theorem dL_law_625 : decode cL_law 625 = .ok (.iconst 3, 1) := by decide +kernel
theorem dL_law_626 : decode cL_law 626 = .ok (.iadd, 1) := by decide +kernel
theorem dL_law_627 : decode cL_law 627 = .ok (.iaload, 1) := by decide +kernel
theorem dL_law_628 : decode cL_law 628 = .ok (.invokevirtual 73, 3) := by decide +kernel
theorem dL_law_631 : decode cL_law 631 = .ok (.if_icmp .eq 176, 3) := by decide +kernel
theorem dL_law_634 : decode cL_law 634 = .ok (.iconst 0, 1) := by decide +kernel
theorem dL_law_635 : decode cL_law 635 = .ok (.ireturn, 1) := by decide +kernel
theorem dL_law_636 : decode cL_law 636 = .ok (.aload_n 1, 1) := by decide +kernel
theorem dL_law_637 : decode cL_law 637 = .ok (.aload_n 0, 1) := by decide +kernel
theorem dL_law_638 : decode cL_law 638 = .ok (.iload_n 3, 1) := by decide +kernel
theorem dL_law_639 : decode cL_law 639 = .ok (.iconst 1, 1) := by decide +kernel
theorem dL_law_640 : decode cL_law 640 = .ok (.iadd, 1) := by decide +kernel
theorem dL_law_641 : decode cL_law 641 = .ok (.iaload, 1) := by decide +kernel
theorem dL_law_642 : decode cL_law 642 = .ok (.aload_n 0, 1) := by decide +kernel
theorem dL_law_643 : decode cL_law 643 = .ok (.iload_n 3, 1) := by decide +kernel
theorem dL_law_644 : decode cL_law 644 = .ok (.iconst 2, 1) := by decide +kernel
theorem dL_law_645 : decode cL_law 645 = .ok (.iadd, 1) := by decide +kernel
theorem dL_law_646 : decode cL_law 646 = .ok (.iaload, 1) := by decide +kernel
theorem dL_law_647 : decode cL_law 647 = .ok (.invokevirtual 74, 3) := by decide +kernel
theorem dL_law_650 : decode cL_law 650 = .ok (.aload_n 2, 1) := by decide +kernel
theorem dL_law_651 : decode cL_law 651 = .ok (.aload_n 0, 1) := by decide +kernel
theorem dL_law_652 : decode cL_law 652 = .ok (.iload_n 3, 1) := by decide +kernel
theorem dL_law_653 : decode cL_law 653 = .ok (.iconst 1, 1) := by decide +kernel
theorem dL_law_654 : decode cL_law 654 = .ok (.iadd, 1) := by decide +kernel
theorem dL_law_655 : decode cL_law 655 = .ok (.iaload, 1) := by decide +kernel
theorem dL_law_656 : decode cL_law 656 = .ok (.aload_n 0, 1) := by decide +kernel
theorem dL_law_657 : decode cL_law 657 = .ok (.iload_n 3, 1) := by decide +kernel
theorem dL_law_658 : decode cL_law 658 = .ok (.iconst 2, 1) := by decide +kernel
theorem dL_law_659 : decode cL_law 659 = .ok (.iadd, 1) := by decide +kernel
theorem dL_law_660 : decode cL_law 660 = .ok (.iaload, 1) := by decide +kernel
theorem dL_law_661 : decode cL_law 661 = .ok (.invokevirtual 77, 3) := by decide +kernel
theorem dL_law_664 : decode cL_law 664 = .ok (.if_icmp .eq 143, 3) := by decide +kernel
theorem dL_law_667 : decode cL_law 667 = .ok (.iconst 0, 1) := by decide +kernel
theorem dL_law_668 : decode cL_law 668 = .ok (.ireturn, 1) := by decide +kernel
theorem dL_law_669 : decode cL_law 669 = .ok (.aload_n 1, 1) := by decide +kernel
theorem dL_law_670 : decode cL_law 670 = .ok (.invokevirtual 78, 3) := by decide +kernel
theorem dL_law_673 : decode cL_law 673 = .ok (.aload_n 2, 1) := by decide +kernel
theorem dL_law_674 : decode cL_law 674 = .ok (.invokevirtual 82, 3) := by decide +kernel
theorem dL_law_677 : decode cL_law 677 = .ok (.if_icmp .eq 130, 3) := by decide +kernel
theorem dL_law_680 : decode cL_law 680 = .ok (.iconst 0, 1) := by decide +kernel
theorem dL_law_681 : decode cL_law 681 = .ok (.ireturn, 1) := by decide +kernel
theorem dL_law_682 : decode cL_law 682 = .ok (.aload_n 1, 1) := by decide +kernel
theorem dL_law_683 : decode cL_law 683 = .ok (.aload_n 0, 1) := by decide +kernel
theorem dL_law_684 : decode cL_law 684 = .ok (.iload_n 3, 1) := by decide +kernel
theorem dL_law_685 : decode cL_law 685 = .ok (.iconst 1, 1) := by decide +kernel
theorem dL_law_686 : decode cL_law 686 = .ok (.iadd, 1) := by decide +kernel
theorem dL_law_687 : decode cL_law 687 = .ok (.iaload, 1) := by decide +kernel
theorem dL_law_688 : decode cL_law 688 = .ok (.invokevirtual 83, 3) := by decide +kernel
theorem dL_law_691 : decode cL_law 691 = .ok (.aload_n 2, 1) := by decide +kernel
theorem dL_law_692 : decode cL_law 692 = .ok (.aload_n 0, 1) := by decide +kernel
theorem dL_law_693 : decode cL_law 693 = .ok (.iload_n 3, 1) := by decide +kernel
theorem dL_law_694 : decode cL_law 694 = .ok (.iconst 1, 1) := by decide +kernel
theorem dL_law_695 : decode cL_law 695 = .ok (.iadd, 1) := by decide +kernel
theorem dL_law_696 : decode cL_law 696 = .ok (.iaload, 1) := by decide +kernel
theorem dL_law_697 : decode cL_law 697 = .ok (.invokevirtual 86, 3) := by decide +kernel
theorem dL_law_700 : decode cL_law 700 = .ok (.if_icmp .eq 107, 3) := by decide +kernel
theorem dL_law_703 : decode cL_law 703 = .ok (.iconst 0, 1) := by decide +kernel
theorem dL_law_704 : decode cL_law 704 = .ok (.ireturn, 1) := by decide +kernel
theorem dL_law_705 : decode cL_law 705 = .ok (.aload_n 1, 1) := by decide +kernel
theorem dL_law_706 : decode cL_law 706 = .ok (.aload_n 0, 1) := by decide +kernel
theorem dL_law_707 : decode cL_law 707 = .ok (.iload_n 3, 1) := by decide +kernel
theorem dL_law_708 : decode cL_law 708 = .ok (.iconst 1, 1) := by decide +kernel
theorem dL_law_709 : decode cL_law 709 = .ok (.iadd, 1) := by decide +kernel
theorem dL_law_710 : decode cL_law 710 = .ok (.iaload, 1) := by decide +kernel
theorem dL_law_711 : decode cL_law 711 = .ok (.aload_n 0, 1) := by decide +kernel
theorem dL_law_712 : decode cL_law 712 = .ok (.iload_n 3, 1) := by decide +kernel
theorem dL_law_713 : decode cL_law 713 = .ok (.iconst 2, 1) := by decide +kernel
theorem dL_law_714 : decode cL_law 714 = .ok (.iadd, 1) := by decide +kernel
theorem dL_law_715 : decode cL_law 715 = .ok (.iaload, 1) := by decide +kernel
theorem dL_law_716 : decode cL_law 716 = .ok (.invokevirtual 87, 3) := by decide +kernel
theorem dL_law_719 : decode cL_law 719 = .ok (.aload_n 2, 1) := by decide +kernel
theorem dL_law_720 : decode cL_law 720 = .ok (.aload_n 0, 1) := by decide +kernel
theorem dL_law_721 : decode cL_law 721 = .ok (.iload_n 3, 1) := by decide +kernel
theorem dL_law_722 : decode cL_law 722 = .ok (.iconst 1, 1) := by decide +kernel
theorem dL_law_723 : decode cL_law 723 = .ok (.iadd, 1) := by decide +kernel
theorem dL_law_724 : decode cL_law 724 = .ok (.iaload, 1) := by decide +kernel
theorem dL_law_725 : decode cL_law 725 = .ok (.aload_n 0, 1) := by decide +kernel
theorem dL_law_726 : decode cL_law 726 = .ok (.iload_n 3, 1) := by decide +kernel
theorem dL_law_727 : decode cL_law 727 = .ok (.iconst 2, 1) := by decide +kernel
theorem dL_law_728 : decode cL_law 728 = .ok (.iadd, 1) := by decide +kernel
theorem dL_law_729 : decode cL_law 729 = .ok (.iaload, 1) := by decide +kernel
theorem dL_law_730 : decode cL_law 730 = .ok (.invokevirtual 90, 3) := by decide +kernel
theorem dL_law_733 : decode cL_law 733 = .ok (.if_icmp .eq 74, 3) := by decide +kernel
theorem dL_law_736 : decode cL_law 736 = .ok (.iconst 0, 1) := by decide +kernel
theorem dL_law_737 : decode cL_law 737 = .ok (.ireturn, 1) := by decide +kernel
theorem dL_law_738 : decode cL_law 738 = .ok (.aload_n 1, 1) := by decide +kernel
theorem dL_law_739 : decode cL_law 739 = .ok (.aload_n 0, 1) := by decide +kernel
theorem dL_law_740 : decode cL_law 740 = .ok (.iload_n 3, 1) := by decide +kernel
theorem dL_law_741 : decode cL_law 741 = .ok (.iconst 1, 1) := by decide +kernel
theorem dL_law_742 : decode cL_law 742 = .ok (.iadd, 1) := by decide +kernel
theorem dL_law_743 : decode cL_law 743 = .ok (.iaload, 1) := by decide +kernel
theorem dL_law_744 : decode cL_law 744 = .ok (.aload_n 0, 1) := by decide +kernel
theorem dL_law_745 : decode cL_law 745 = .ok (.iload_n 3, 1) := by decide +kernel
theorem dL_law_746 : decode cL_law 746 = .ok (.iconst 2, 1) := by decide +kernel
theorem dL_law_747 : decode cL_law 747 = .ok (.iadd, 1) := by decide +kernel
theorem dL_law_748 : decode cL_law 748 = .ok (.iaload, 1) := by decide +kernel
theorem dL_law_749 : decode cL_law 749 = .ok (.invokevirtual 91, 3) := by decide +kernel
theorem dL_law_752 : decode cL_law 752 = .ok (.aload_n 2, 1) := by decide +kernel
theorem dL_law_753 : decode cL_law 753 = .ok (.aload_n 0, 1) := by decide +kernel
theorem dL_law_754 : decode cL_law 754 = .ok (.iload_n 3, 1) := by decide +kernel
theorem dL_law_755 : decode cL_law 755 = .ok (.iconst 1, 1) := by decide +kernel
theorem dL_law_756 : decode cL_law 756 = .ok (.iadd, 1) := by decide +kernel
theorem dL_law_757 : decode cL_law 757 = .ok (.iaload, 1) := by decide +kernel
theorem dL_law_758 : decode cL_law 758 = .ok (.aload_n 0, 1) := by decide +kernel
theorem dL_law_759 : decode cL_law 759 = .ok (.iload_n 3, 1) := by decide +kernel
theorem dL_law_760 : decode cL_law 760 = .ok (.iconst 2, 1) := by decide +kernel
theorem dL_law_761 : decode cL_law 761 = .ok (.iadd, 1) := by decide +kernel
theorem dL_law_762 : decode cL_law 762 = .ok (.iaload, 1) := by decide +kernel
theorem dL_law_763 : decode cL_law 763 = .ok (.invokevirtual 94, 3) := by decide +kernel
theorem dL_law_766 : decode cL_law 766 = .ok (.if_icmp .eq 41, 3) := by decide +kernel
theorem dL_law_769 : decode cL_law 769 = .ok (.iconst 0, 1) := by decide +kernel
theorem dL_law_770 : decode cL_law 770 = .ok (.ireturn, 1) := by decide +kernel
theorem dL_law_771 : decode cL_law 771 = .ok (.aload_n 1, 1) := by decide +kernel
theorem dL_law_772 : decode cL_law 772 = .ok (.aload_n 0, 1) := by decide +kernel
theorem dL_law_773 : decode cL_law 773 = .ok (.iload_n 3, 1) := by decide +kernel
theorem dL_law_774 : decode cL_law 774 = .ok (.iconst 1, 1) := by decide +kernel
theorem dL_law_775 : decode cL_law 775 = .ok (.iadd, 1) := by decide +kernel
theorem dL_law_776 : decode cL_law 776 = .ok (.iaload, 1) := by decide +kernel
theorem dL_law_777 : decode cL_law 777 = .ok (.invokevirtual 95, 3) := by decide +kernel
theorem dL_law_780 : decode cL_law 780 = .ok (.aload_n 2, 1) := by decide +kernel
theorem dL_law_781 : decode cL_law 781 = .ok (.aload_n 0, 1) := by decide +kernel
theorem dL_law_782 : decode cL_law 782 = .ok (.iload_n 3, 1) := by decide +kernel
theorem dL_law_783 : decode cL_law 783 = .ok (.iconst 1, 1) := by decide +kernel
theorem dL_law_784 : decode cL_law 784 = .ok (.iadd, 1) := by decide +kernel
theorem dL_law_785 : decode cL_law 785 = .ok (.iaload, 1) := by decide +kernel
theorem dL_law_786 : decode cL_law 786 = .ok (.invokevirtual 98, 3) := by decide +kernel
theorem dL_law_789 : decode cL_law 789 = .ok (.if_icmp .eq 18, 3) := by decide +kernel
theorem dL_law_792 : decode cL_law 792 = .ok (.iconst 0, 1) := by decide +kernel
theorem dL_law_793 : decode cL_law 793 = .ok (.ireturn, 1) := by decide +kernel
theorem dL_law_794 : decode cL_law 794 = .ok (.aload_n 1, 1) := by decide +kernel
theorem dL_law_795 : decode cL_law 795 = .ok (.invokevirtual 99, 3) := by decide +kernel
theorem dL_law_798 : decode cL_law 798 = .ok (.aload_n 2, 1) := by decide +kernel
theorem dL_law_799 : decode cL_law 799 = .ok (.invokevirtual 102, 3) := by decide +kernel
theorem dL_law_802 : decode cL_law 802 = .ok (.if_icmp .eq 5, 3) := by decide +kernel
theorem dL_law_805 : decode cL_law 805 = .ok (.iconst 0, 1) := by decide +kernel
theorem dL_law_806 : decode cL_law 806 = .ok (.ireturn, 1) := by decide +kernel
theorem dL_law_807 : decode cL_law 807 = .ok (.iinc 3 6, 3) := by decide +kernel
theorem dL_law_810 : decode cL_law 810 = .ok (.goto (-792), 3) := by decide +kernel
theorem dL_law_813 : decode cL_law 813 = .ok (.iconst 1, 1) := by decide +kernel
theorem dL_law_814 : decode cL_law 814 = .ok (.ireturn, 1) := by decide +kernel
end
section
-- class 0: ObjectLoads = X10, fields ['things', 'thingCount', 'loaded', 'building', 'refusedThing', 'refusedOther', 'refusedCause', 'failedLoads']
-- class 1: ObjectLoads$Point = X7, fields ['number', 'places', 'key', 'v', 'next', 'held', 'timesAsked']
-- class 2: ObjectLoads$City = X2, fields ['number', 'places', 'key', 'v', 'next', 'held', 'timesAsked']
-- class 3: ObjectLoads$Bridge = X0, fields ['number', 'places', 'key', 'v', 'next', 'held', 'timesAsked']
-- class 4: ObjectLoads$Broken = X1, fields ['number', 'places', 'key', 'v', 'next', 'held', 'timesAsked']
-- class 5: ObjectLoads$Masked = X5, fields ['number', 'places', 'key', 'v', 'next', 'held', 'timesAsked']
-- class 6: ObjectLoads$ShortCity = X8, fields ['number', 'places', 'key', 'v', 'next', 'held', 'timesAsked']
-- class 7: ObjectLoads$Empty = X3, fields ['number', 'places', 'key', 'v', 'next', 'held', 'timesAsked']
-- class 8: ObjectLoads$Graph = X4, fields ['nodes', 'nodeOfThing', 'values', 'firstArc', 'arcEnds', 'arcWeights', 'arcBridged', 'steps', 'reached', 'nodeCount', 'arcCount', 'holeCount']
-- class 9: ObjectLoadsModel = X11, fields ['things', 'sorts', 'keys', 'vs', 'nexts', 'places', 'isHeld', 'askedOf', 'moved', 'told', 'links', 'linkMany', 'now', 'nodes', 'thingOf', 'nodeOf', 'columns', 'firstArc', 'arcsIn', 'arcTo', 'arcWeight', 'arcBridge', 'holeMany', 'failed', 'refusedThing', 'refusedOther', 'refusedCause', 'keyOf', 'far']
def ol_cl : List vw_C := [(RX10, TX10, 8), (RX7, TX7, 7), (RX2, TX2, 7), (RX0, TX0, 7), (RX1, TX1, 7), (RX5, TX5, 7), (RX8, TX8, 7), (RX3, TX3, 7), (RX4, TX4, 12), (RX11, TX11, 29)]
def ol_fk : Nat → List Bool := fun ci => match ci with
  | 0 => [true, false, true, true, false, false, false, false]
  | 1 => [false, true, false, false, true, false, false]
  | 2 => [false, true, false, false, true, false, false]
  | 3 => [false, true, false, false, true, false, false]
  | 4 => [false, true, false, false, true, false, false]
  | 5 => [false, true, false, false, true, false, false]
  | 6 => [false, true, false, false, true, false, false]
  | 7 => [false, true, false, false, true, false, false]
  | 8 => [true, true, true, true, true, true, true, true, true, false, false, false]
  | 9 => [false, true, true, true, true, true, true, true, true, false, true, false, false, true, true, true, true, true, true, true, true, true, true, false, false, false, false, true, true]
  | _ => []
def ol_ty : Nat → Nat → FieldType := fun ci => match ci with
  | 0 => tyX10
  | 1 => tyX7
  | 2 => tyX2
  | 3 => tyX0
  | 4 => tyX1
  | 5 => tyX5
  | 6 => tyX8
  | 7 => tyX3
  | 8 => tyX4
  | 9 => tyX11
  | _ => fun _ => .int
def ol_ar : Nat → Bool := fun t => decide (2 ≤ t)
def ol_tys (cA : Nat → ClassId) : List (ClassId × FieldType) := [(cA 0, .int), (cA 1, .boolean), (cA 2, .object "ObjectLoads$Thing"), (cA 3, .object "ObjectLoads$Node")]
/-- the kind of a role: 1 the class, 2..8 a thing of sort 0..6, 9 (unused), 10 the reference, 11 things, 12 places, 22..42 the reference's rows, 50.. and 60.. the two graphs with their rows -/
def ol_cts : List (Nat ⊕ (Nat × Nat)) := [.inl 0, .inl 0, .inl 1, .inl 2, .inl 3, .inl 4, .inl 5, .inl 6, .inl 7, .inl 8, .inl 9, .inr (2, 40), .inr (2, 6), .inl 0, .inl 0, .inl 0, .inl 0, .inl 0, .inl 0, .inl 0, .inl 0, .inl 0, .inr (0, 40), .inr (0, 40), .inr (0, 40), .inr (0, 40), .inr (0, 240), .inr (1, 40), .inr (0, 40), .inr (0, 6), .inr (0, 6), .inr (0, 2), .inr (0, 80), .inr (0, 80), .inr (0, 80), .inr (0, 82), .inr (0, 2), .inr (0, 480), .inr (0, 480), .inr (1, 480), .inr (0, 2), .inr (0, 40), .inr (0, 40), .inl 0, .inl 0, .inl 0, .inl 0, .inl 0, .inl 0, .inl 0, .inl 8, .inr (3, 40), .inr (0, 40), .inr (0, 40), .inr (0, 41), .inr (0, 240), .inr (0, 240), .inr (1, 240), .inr (0, 40), .inr (0, 40), .inl 8, .inr (3, 40), .inr (0, 40), .inr (0, 40), .inr (0, 41), .inr (0, 240), .inr (0, 240), .inr (1, 240), .inr (0, 40), .inr (0, 40)]
def ol_ct (r : Nat) : Nat ⊕ (Nat × Nat) := ol_cts.getD r (.inl 0)
def ol_fd (ci k : Nat) : Option (String × String × String × Bool) := (ol_cl[ci]?).bind (fun q => if k < q.2.2 then some (q.2.1 k) else none)
def ol_all : List Cond := lw_tbl.filter goodWord
theorem ol_all_good : GoodIn ol_all ol_all := fun w h => ⟨h, good_of_word (List.mem_filter.mp h).2⟩
theorem ol_in {w : Cond} (i : Nat) (h : tables_1[i]? = some w) (hg : goodWord w = true) : w ∈ ol_all := List.mem_filter.mpr ⟨List.mem_append_right _ (List.mem_of_getElem? h), hg⟩
theorem ol_inP {w : Cond} (i : Nat) (h : (k2_sels lw_privs)[i]? = some w) (hg : goodWord w = true) : w ∈ ol_all := List.mem_filter.mpr ⟨List.mem_append_left _ (List.mem_of_getElem? h), hg⟩
def ol_n1 : List Cond := [
Cond.declares ⟨"ObjectLoads$Thing", "keyCause", "()I"⟩,
  Cond.declares ⟨"ObjectLoads$Thing", "toldKey", "()I"⟩,
  Cond.declares ⟨"ObjectLoads$Thing", "valueCause", "()I"⟩,
  Cond.declares ⟨"ObjectLoads$Thing", "toldValue", "()I"⟩,
  Cond.declares ⟨"ObjectLoads$Thing", "linksCause", "()I"⟩,
  Cond.methodLinkNest "ObjectLoads$Masked" 19 ⟨"ObjectLoads", "countUpToBridge", "([LObjectLoads$Thing;II)I"⟩ "ObjectLoads",
  Cond.methodLinkNest "ObjectLoads$ShortCity" 15 ⟨"ObjectLoads", "isPlace", "(I)Z"⟩ "ObjectLoads",
  Cond.declares ⟨"ObjectLoads$Thing", "linkCount", "()I"⟩,
  Cond.declares ⟨"ObjectLoads$Node", "link", "(I)LObjectLoads$Thing;"⟩,
  Cond.methodLinkNest "ObjectLoads$City" 15 ⟨"ObjectLoads", "isPlace", "(I)Z"⟩ "ObjectLoads",
  Cond.castable "ObjectLoads$Masked" "ObjectLoads$Masked",
  Cond.castable "ObjectLoads$Bridge" "ObjectLoads$Bridge",
  Cond.castable "ObjectLoads$Broken" "ObjectLoads$Node",
  Cond.castable "ObjectLoads$City" "ObjectLoads$Node",
  Cond.castable "ObjectLoads$Empty" "ObjectLoads$Node",
  Cond.castable "ObjectLoads$Masked" "ObjectLoads$Node",
  Cond.castable "ObjectLoads$Point" "ObjectLoads$Node",
  Cond.castable "ObjectLoads$ShortCity" "ObjectLoads$Node",
  Cond.castable "ObjectLoads$City" "ObjectLoads$City",
  Cond.castable "ObjectLoads$Masked" "ObjectLoads$City",
  Cond.castable "ObjectLoads$ShortCity" "ObjectLoads$City",
  Cond.castable "ObjectLoads$Bridge" "ObjectLoads$Thing",
  Cond.castable "ObjectLoads$Broken" "ObjectLoads$Thing",
  Cond.castable "ObjectLoads$City" "ObjectLoads$Thing",
  Cond.castable "ObjectLoads$Empty" "ObjectLoads$Thing",
  Cond.castable "ObjectLoads$Masked" "ObjectLoads$Thing",
  Cond.castable "ObjectLoads$Point" "ObjectLoads$Thing",
  Cond.castable "ObjectLoads$ShortCity" "ObjectLoads$Thing"]
def ol_n2 : List (String × String) := [("ObjectLoads", "ObjectLoads$Bridge"), ("ObjectLoads", "ObjectLoads$City"), ("ObjectLoads", "ObjectLoads$Masked"), ("ObjectLoads", "ObjectLoads$Node"), ("ObjectLoads$Bridge", "ObjectLoads$City"), ("ObjectLoads$Bridge", "ObjectLoads$Masked"), ("ObjectLoads$Bridge", "ObjectLoads$Node"), ("ObjectLoads$Broken", "ObjectLoads$Bridge"), ("ObjectLoads$Broken", "ObjectLoads$City"), ("ObjectLoads$Broken", "ObjectLoads$Masked"), ("ObjectLoads$City", "ObjectLoads$Bridge"), ("ObjectLoads$City", "ObjectLoads$Masked"), ("ObjectLoads$Empty", "ObjectLoads$Bridge"), ("ObjectLoads$Empty", "ObjectLoads$City"), ("ObjectLoads$Empty", "ObjectLoads$Masked"), ("ObjectLoads$Graph", "ObjectLoads$Bridge"), ("ObjectLoads$Graph", "ObjectLoads$City"), ("ObjectLoads$Graph", "ObjectLoads$Masked"), ("ObjectLoads$Graph", "ObjectLoads$Node"), ("ObjectLoads$Masked", "ObjectLoads$Bridge"), ("ObjectLoads$Point", "ObjectLoads$Bridge"), ("ObjectLoads$Point", "ObjectLoads$City"), ("ObjectLoads$Point", "ObjectLoads$Masked"), ("ObjectLoads$ShortCity", "ObjectLoads$Bridge"), ("ObjectLoads$ShortCity", "ObjectLoads$Masked"), ("ObjectLoadsModel", "ObjectLoads$Bridge"), ("ObjectLoadsModel", "ObjectLoads$City"), ("ObjectLoadsModel", "ObjectLoads$Masked"), ("ObjectLoadsModel", "ObjectLoads$Node")]
def ol_n3 : List String := ["ObjectLoads$Thing", "ObjectLoads$Node"]
theorem ol_n1_in : ∀ w ∈ ol_n1, w ∈ tables_1 := by decide +kernel
theorem ol_ws0 : ∀ w ∈ u_ws RX10 TX10 8, w ∈ ol_all := by decide +kernel
theorem ol_ws1 : ∀ w ∈ u_ws RX7 TX7 7, w ∈ ol_all := by decide +kernel
theorem ol_ws2 : ∀ w ∈ u_ws RX2 TX2 7, w ∈ ol_all := by decide +kernel
theorem ol_ws3 : ∀ w ∈ u_ws RX0 TX0 7, w ∈ ol_all := by decide +kernel
theorem ol_ws4 : ∀ w ∈ u_ws RX1 TX1 7, w ∈ ol_all := by decide +kernel
theorem ol_ws5 : ∀ w ∈ u_ws RX5 TX5 7, w ∈ ol_all := by decide +kernel
theorem ol_ws6 : ∀ w ∈ u_ws RX8 TX8 7, w ∈ ol_all := by decide +kernel
theorem ol_ws7 : ∀ w ∈ u_ws RX3 TX3 7, w ∈ ol_all := by decide +kernel
theorem ol_ws8 : ∀ w ∈ u_ws RX4 TX4 12, w ∈ ol_all := by decide +kernel
theorem ol_ws9 : ∀ w ∈ u_ws RX11 TX11 29, w ∈ ol_all := by decide +kernel
theorem ol_cl_ws : ∀ (ci : Nat) (q : vw_C), ol_cl[ci]? = some q → ∀ w ∈ u_ws q.1 q.2.1 q.2.2, w ∈ ol_all := by
  intro ci q h
  match ci, h with
  | 0, h => cases h; exact ol_ws0
  | 1, h => cases h; exact ol_ws1
  | 2, h => cases h; exact ol_ws2
  | 3, h => cases h; exact ol_ws3
  | 4, h => cases h; exact ol_ws4
  | 5, h => cases h; exact ol_ws5
  | 6, h => cases h; exact ol_ws6
  | 7, h => cases h; exact ol_ws7
  | 8, h => cases h; exact ol_ws8
  | 9, h => cases h; exact ol_ws9
  | k + 10, h => simp [ol_cl] at h
theorem ol_cl_ty : ∀ (ci : Nat) (q : vw_C), ol_cl[ci]? = some q → ∀ k, k < q.2.2 → parseFieldDescriptor (q.2.1 k).2.2.1 = some (ol_ty ci k) := by
  intro ci q h
  match ci, h with
  | 0, h => cases h; exact tyX10_ok
  | 1, h => cases h; exact tyX7_ok
  | 2, h => cases h; exact tyX2_ok
  | 3, h => cases h; exact tyX0_ok
  | 4, h => cases h; exact tyX1_ok
  | 5, h => cases h; exact tyX5_ok
  | 6, h => cases h; exact tyX8_ok
  | 7, h => cases h; exact tyX3_ok
  | 8, h => cases h; exact tyX4_ok
  | 9, h => cases h; exact tyX11_ok
  | k + 10, h => simp [ol_cl] at h
theorem ol_cl_nm : ∀ (ci : Nat) (q : vw_C), ol_cl[ci]? = some q → ∀ a, a < q.2.2 → ∀ b, b < q.2.2 → a ≠ b → (q.2.1 a).2.1 ≠ (q.2.1 b).2.1 := by
  intro ci q h
  match ci, h with
  | 0, h => cases h; exact nmX10
  | 1, h => cases h; exact nmX7
  | 2, h => cases h; exact nmX2
  | 3, h => cases h; exact nmX0
  | 4, h => cases h; exact nmX1
  | 5, h => cases h; exact nmX5
  | 6, h => cases h; exact nmX8
  | 7, h => cases h; exact nmX3
  | 8, h => cases h; exact nmX4
  | 9, h => cases h; exact nmX11
  | k + 10, h => simp [ol_cl] at h
theorem ol_cl_len : ∀ (ci : Nat) (q : vw_C), ol_cl[ci]? = some q → (ol_fk ci).length = q.2.2 := by
  intro ci q h
  match ci, h with
  | 0, h => cases h; rfl
  | 1, h => cases h; rfl
  | 2, h => cases h; rfl
  | 3, h => cases h; rfl
  | 4, h => cases h; rfl
  | 5, h => cases h; rfl
  | 6, h => cases h; rfl
  | 7, h => cases h; rfl
  | 8, h => cases h; rfl
  | 9, h => cases h; rfl
  | k + 10, h => simp [ol_cl] at h
end
section
theorem ol_in1 {w : Cond} (i : Nat) (h : tables_1_1[i]? = some w) (hg : goodWord w = true) : w ∈ ol_all := List.mem_filter.mpr ⟨List.mem_append_right _ (List.mem_append_left _ (List.mem_of_getElem? h)), hg⟩
theorem ol_in2 {w : Cond} (i : Nat) (h : tables_1_2[i]? = some w) (hg : goodWord w = true) : w ∈ ol_all := List.mem_filter.mpr ⟨List.mem_append_right _ (List.mem_append_right _ (List.mem_append_left _ (List.mem_of_getElem? h))), hg⟩
theorem ol_in3 {w : Cond} (i : Nat) (h : tables_1_3[i]? = some w) (hg : goodWord w = true) : w ∈ ol_all := List.mem_filter.mpr ⟨List.mem_append_right _ (List.mem_append_right _ (List.mem_append_right _ (List.mem_append_left _ (List.mem_of_getElem? h)))), hg⟩
theorem ol_in4 {w : Cond} (i : Nat) (h : tables_1_4[i]? = some w) (hg : goodWord w = true) : w ∈ ol_all := List.mem_filter.mpr ⟨List.mem_append_right _ (List.mem_append_right _ (List.mem_append_right _ (List.mem_append_right _ (List.mem_of_getElem? h)))), hg⟩
theorem wd_0 : Cond.initialized "ObjectLoadsLaw" ∈ ol_all := ol_in1 0 (by decide +kernel) rfl
theorem wd_1 : Cond.initialized "ObjectLoads" ∈ ol_all := ol_in1 1 (by decide +kernel) rfl
theorem wd_2 : Cond.initialized "ObjectLoads$Graph" ∈ ol_all := ol_in1 2 (by decide +kernel) rfl
theorem wd_3 : Cond.initialized "java/util/Arrays" ∈ ol_all := ol_in1 3 (by decide +kernel) rfl
theorem wd_4 : Cond.initialized "ObjectLoadsModel" ∈ ol_all := ol_in1 4 (by decide +kernel) rfl
theorem wd_5 : Cond.initialized "ObjectLoads$Thing" ∈ ol_all := ol_in1 5 (by decide +kernel) rfl
theorem wd_6 : Cond.initialized "ObjectLoads$Node" ∈ ol_all := ol_in1 6 (by decide +kernel) rfl
theorem wd_7 : Cond.initialized "ObjectLoads$City" ∈ ol_all := ol_in1 7 (by decide +kernel) rfl
theorem wd_8 : Cond.initialized "ObjectLoads$Bridge" ∈ ol_all := ol_in1 8 (by decide +kernel) rfl
theorem wd_9 : Cond.initialized "ObjectLoads$Point" ∈ ol_all := ol_in1 9 (by decide +kernel) rfl
theorem wd_10 : Cond.initialized "ObjectLoads$Broken" ∈ ol_all := ol_in1 10 (by decide +kernel) rfl
theorem wd_11 : Cond.initialized "ObjectLoads$Masked" ∈ ol_all := ol_in1 11 (by decide +kernel) rfl
theorem wd_12 : Cond.initialized "ObjectLoads$ShortCity" ∈ ol_all := ol_in1 12 (by decide +kernel) rfl
theorem wd_13 : Cond.initialized "ObjectLoads$Empty" ∈ ol_all := ol_in1 13 (by decide +kernel) rfl
theorem wd_14 : Cond.classLink "ObjectLoadsLaw" 7 "ObjectLoads" ∈ ol_all := ol_in1 14 (by decide +kernel) rfl
theorem wd_15 : Cond.instantiable "ObjectLoads" 8 ∈ ol_all := ol_in1 15 (by decide +kernel) rfl
theorem wd_16 : Cond.methodLink "ObjectLoadsLaw" 9 ⟨"ObjectLoads", "<init>", "()V"⟩ ∈ ol_all := ol_in1 16 (by decide +kernel) rfl
theorem wd_17 : Cond.instanceMethod ⟨"ObjectLoads", "<init>", "()V"⟩ ∈ ol_all := ol_in1 17 (by decide +kernel) rfl
theorem wd_18 : Cond.code ⟨"ObjectLoads", "<init>", "()V"⟩ prog_1_method_1_code 1 none ∈ ol_all := ol_in1 18 (rfl) rfl
theorem wd_19 : Cond.methodLink "ObjectLoads" 3 ⟨"java/lang/Object", "<init>", "()V"⟩ ∈ ol_all := ol_in1 19 (by decide +kernel) rfl
theorem wd_20 : Cond.instanceMethod ⟨"java/lang/Object", "<init>", "()V"⟩ ∈ ol_all := ol_in1 20 (by decide +kernel) rfl
theorem wd_21 : Cond.code ⟨"java/lang/Object", "<init>", "()V"⟩ object_method_1_code 1 none ∈ ol_all := ol_in1 21 (rfl) rfl
theorem wd_22 : Cond.classLink "ObjectLoads" 9 "ObjectLoads$Thing" ∈ ol_all := ol_in1 22 (by decide +kernel) rfl
theorem wd_24 : Cond.classLink "ObjectLoads" 19 "ObjectLoads$Graph" ∈ ol_all := ol_in1 24 (by decide +kernel) rfl
theorem wd_25 : Cond.instantiable "ObjectLoads$Graph" 12 ∈ ol_all := ol_in1 25 (by decide +kernel) rfl
theorem wd_26 : Cond.methodLink "ObjectLoads" 21 ⟨"ObjectLoads$Graph", "<init>", "()V"⟩ ∈ ol_all := ol_in1 26 (by decide +kernel) rfl
theorem wd_27 : Cond.instanceMethod ⟨"ObjectLoads$Graph", "<init>", "()V"⟩ ∈ ol_all := ol_in1 27 (by decide +kernel) rfl
theorem wd_28 : Cond.code ⟨"ObjectLoads$Graph", "<init>", "()V"⟩ prog_6_method_1_code 1 none ∈ ol_all := ol_in1 28 (rfl) rfl
theorem wd_29 : Cond.methodLink "ObjectLoads$Graph" 3 ⟨"java/lang/Object", "<init>", "()V"⟩ ∈ ol_all := ol_in1 29 (by decide +kernel) rfl
theorem wd_30 : Cond.classLink "ObjectLoads$Graph" 9 "ObjectLoads$Node" ∈ ol_all := ol_in1 30 (by decide +kernel) rfl
theorem wd_32 : Cond.constant "ObjectLoads$Graph" 53 (-1000009) ∈ ol_all := ol_in1 32 (by decide +kernel) rfl
theorem wd_33 : Cond.methodLink "ObjectLoads$Graph" 54 ⟨"java/util/Arrays", "fill", "([II)V"⟩ ∈ ol_all := ol_in1 33 (by decide +kernel) rfl
theorem wd_34 : Cond.static ⟨"java/util/Arrays", "fill", "([II)V"⟩ ∈ ol_all := ol_in1 34 (by decide +kernel) rfl
theorem wd_35 : Cond.code ⟨"java/util/Arrays", "fill", "([II)V"⟩ prog_14_method_103_code 4 none ∈ ol_all := ol_in1 35 (rfl) rfl
theorem wd_36 : Cond.fieldLink "ObjectLoads$Graph" 11 "ObjectLoads$Graph" "nodes" "[LObjectLoads$Node;" ∈ ol_all := ol_in1 36 (by decide +kernel) rfl
theorem wd_37 : Cond.fieldLink "ObjectLoads" 122 "ObjectLoads$Graph" "nodes" "[LObjectLoads$Node;" ∈ ol_all := ol_in1 37 (by decide +kernel) rfl
theorem wd_38 : Cond.fieldLink "ObjectLoads$Graph" 17 "ObjectLoads$Graph" "nodeOfThing" "[I" ∈ ol_all := ol_in1 38 (by decide +kernel) rfl
theorem wd_39 : Cond.fieldLink "ObjectLoads" 115 "ObjectLoads$Graph" "nodeOfThing" "[I" ∈ ol_all := ol_in1 39 (by decide +kernel) rfl
theorem wd_40 : Cond.fieldLink "ObjectLoads$Graph" 21 "ObjectLoads$Graph" "values" "[I" ∈ ol_all := ol_in1 40 (by decide +kernel) rfl
theorem wd_41 : Cond.fieldLink "ObjectLoads" 129 "ObjectLoads$Graph" "values" "[I" ∈ ol_all := ol_in1 41 (by decide +kernel) rfl
theorem wd_42 : Cond.fieldLink "ObjectLoads$Graph" 24 "ObjectLoads$Graph" "firstArc" "[I" ∈ ol_all := ol_in1 42 (by decide +kernel) rfl
theorem wd_43 : Cond.fieldLink "ObjectLoads" 136 "ObjectLoads$Graph" "firstArc" "[I" ∈ ol_all := ol_in1 43 (by decide +kernel) rfl
theorem wd_44 : Cond.fieldLink "ObjectLoads$Graph" 27 "ObjectLoads$Graph" "arcEnds" "[I" ∈ ol_all := ol_in1 44 (by decide +kernel) rfl
theorem wd_45 : Cond.fieldLink "ObjectLoads" 139 "ObjectLoads$Graph" "arcEnds" "[I" ∈ ol_all := ol_in1 45 (by decide +kernel) rfl
theorem wd_46 : Cond.fieldLink "ObjectLoads$Graph" 30 "ObjectLoads$Graph" "arcWeights" "[I" ∈ ol_all := ol_in1 46 (by decide +kernel) rfl
theorem wd_47 : Cond.fieldLink "ObjectLoads" 142 "ObjectLoads$Graph" "arcWeights" "[I" ∈ ol_all := ol_in1 47 (by decide +kernel) rfl
theorem wd_48 : Cond.fieldLink "ObjectLoads$Graph" 33 "ObjectLoads$Graph" "arcBridged" "[Z" ∈ ol_all := ol_in1 48 (by decide +kernel) rfl
theorem wd_49 : Cond.fieldLink "ObjectLoads" 145 "ObjectLoads$Graph" "arcBridged" "[Z" ∈ ol_all := ol_in1 49 (by decide +kernel) rfl
theorem wd_50 : Cond.fieldLink "ObjectLoads$Graph" 37 "ObjectLoads$Graph" "steps" "[I" ∈ ol_all := ol_in1 50 (by decide +kernel) rfl
theorem wd_51 : Cond.fieldLink "ObjectLoads$Graph" 40 "ObjectLoads$Graph" "reached" "[I" ∈ ol_all := ol_in1 51 (by decide +kernel) rfl
theorem wd_52 : Cond.fieldLink "ObjectLoads$Graph" 43 "ObjectLoads$Graph" "nodeCount" "I" ∈ ol_all := ol_in1 52 (by decide +kernel) rfl
theorem wd_53 : Cond.fieldLink "ObjectLoads" 109 "ObjectLoads$Graph" "nodeCount" "I" ∈ ol_all := ol_in1 53 (by decide +kernel) rfl
theorem wd_54 : Cond.fieldLink "ObjectLoads$Graph" 47 "ObjectLoads$Graph" "arcCount" "I" ∈ ol_all := ol_in1 54 (by decide +kernel) rfl
theorem wd_55 : Cond.fieldLink "ObjectLoads" 185 "ObjectLoads$Graph" "arcCount" "I" ∈ ol_all := ol_in1 55 (by decide +kernel) rfl
theorem wd_56 : Cond.fieldLink "ObjectLoads$Graph" 50 "ObjectLoads$Graph" "holeCount" "I" ∈ ol_all := ol_in1 56 (by decide +kernel) rfl
theorem wd_57 : Cond.fieldLink "ObjectLoads" 153 "ObjectLoads$Graph" "holeCount" "I" ∈ ol_all := ol_in1 57 (by decide +kernel) rfl
theorem wd_82 : Cond.superclass "ObjectLoads$Graph" "java/lang/Object" ∈ ol_all := ol_in1 82 (by decide +kernel) rfl
theorem wd_83 : Cond.arrayClass FieldType.int ∈ ol_all := ol_in1 83 (by decide +kernel) rfl
theorem wd_84 : Cond.arrayClass FieldType.boolean ∈ ol_all := ol_in1 84 (by decide +kernel) rfl
theorem wd_85 : Cond.constant "ObjectLoads" 29 (-1000009) ∈ ol_all := ol_in1 85 (by decide +kernel) rfl
theorem wd_86 : Cond.fieldLink "ObjectLoads" 11 "ObjectLoads" "things" "[LObjectLoads$Thing;" ∈ ol_all := ol_in1 86 (by decide +kernel) rfl
theorem wd_87 : Cond.fieldLink "ObjectLoads" 15 "ObjectLoads" "thingCount" "I" ∈ ol_all := ol_in1 87 (by decide +kernel) rfl
theorem wd_88 : Cond.fieldLink "ObjectLoads" 22 "ObjectLoads" "loaded" "LObjectLoads$Graph;" ∈ ol_all := ol_in1 88 (by decide +kernel) rfl
theorem wd_89 : Cond.fieldLink "ObjectLoads" 26 "ObjectLoads" "building" "LObjectLoads$Graph;" ∈ ol_all := ol_in1 89 (by decide +kernel) rfl
theorem wd_90 : Cond.fieldLink "ObjectLoads" 30 "ObjectLoads" "refusedThing" "I" ∈ ol_all := ol_in1 90 (by decide +kernel) rfl
theorem wd_91 : Cond.fieldLink "ObjectLoads" 33 "ObjectLoads" "refusedOther" "I" ∈ ol_all := ol_in1 91 (by decide +kernel) rfl
theorem wd_92 : Cond.fieldLink "ObjectLoads" 36 "ObjectLoads" "refusedCause" "I" ∈ ol_all := ol_in1 92 (by decide +kernel) rfl
theorem wd_93 : Cond.fieldLink "ObjectLoads" 39 "ObjectLoads" "failedLoads" "I" ∈ ol_all := ol_in1 93 (by decide +kernel) rfl
theorem wd_110 : Cond.superclass "ObjectLoads" "java/lang/Object" ∈ ol_all := ol_in1 110 (by decide +kernel) rfl
theorem wd_111 : Cond.methodLink "ObjectLoadsLaw" 13 ⟨"ObjectLoads", "thing", "(III)I"⟩ ∈ ol_all := ol_in1 111 (by decide +kernel) rfl
theorem wd_112 : Cond.instanceMethod ⟨"ObjectLoads", "thing", "(III)I"⟩ ∈ ol_all := ol_in1 112 (by decide +kernel) rfl
theorem wd_113 : Cond.selects "ObjectLoads" ⟨"ObjectLoads", "thing", "(III)I"⟩ ⟨"ObjectLoads", "thing", "(III)I"⟩ ∈ ol_all := ol_in1 113 (by decide +kernel) rfl
theorem wd_114 : Cond.code ⟨"ObjectLoads", "thing", "(III)I"⟩ prog_1_method_2_code 5 (some FieldType.int) ∈ ol_all := ol_in1 114 (rfl) rfl
theorem wd_115 : Cond.constant "ObjectLoads" 42 (-1000002) ∈ ol_all := ol_in1 115 (by decide +kernel) rfl
theorem wd_116 : Cond.constant "ObjectLoads" 43 (-1000004) ∈ ol_all := ol_in1 116 (by decide +kernel) rfl
theorem wd_117 : Cond.methodLink "ObjectLoads" 44 ⟨"ObjectLoads", "newThing", "(IIII)LObjectLoads$Thing;"⟩ ∈ ol_all := ol_in1 117 (by decide +kernel) rfl
theorem wd_118 : Cond.static ⟨"ObjectLoads", "newThing", "(IIII)LObjectLoads$Thing;"⟩ ∈ ol_all := ol_in1 118 (by decide +kernel) rfl
theorem wd_119 : Cond.code ⟨"ObjectLoads", "newThing", "(IIII)LObjectLoads$Thing;"⟩ prog_1_method_23_code 4 (some (FieldType.object "ObjectLoads$Thing")) ∈ ol_all := ol_in1 119 (rfl) rfl
theorem wd_120 : Cond.classLink "ObjectLoads" 181 "ObjectLoads$City" ∈ ol_all := ol_in1 120 (by decide +kernel) rfl
theorem wd_121 : Cond.instantiable "ObjectLoads$City" 7 ∈ ol_all := ol_in1 121 (by decide +kernel) rfl
theorem wd_122 : Cond.methodLink "ObjectLoads" 191 ⟨"ObjectLoads$City", "<init>", "(III)V"⟩ ∈ ol_all := ol_in1 122 (by decide +kernel) rfl
theorem wd_123 : Cond.instanceMethod ⟨"ObjectLoads$City", "<init>", "(III)V"⟩ ∈ ol_all := ol_in1 123 (by decide +kernel) rfl
theorem wd_124 : Cond.code ⟨"ObjectLoads$City", "<init>", "(III)V"⟩ prog_4_method_1_code 4 none ∈ ol_all := ol_in1 124 (rfl) rfl
theorem wd_125 : Cond.methodLink "ObjectLoads$City" 3 ⟨"ObjectLoads$Node", "<init>", "(III)V"⟩ ∈ ol_all := ol_in1 125 (by decide +kernel) rfl
theorem wd_126 : Cond.instanceMethod ⟨"ObjectLoads$Node", "<init>", "(III)V"⟩ ∈ ol_all := ol_in1 126 (by decide +kernel) rfl
theorem wd_127 : Cond.code ⟨"ObjectLoads$Node", "<init>", "(III)V"⟩ prog_8_method_1_code 4 none ∈ ol_all := ol_in1 127 (rfl) rfl
theorem wd_128 : Cond.methodLink "ObjectLoads$Node" 1 ⟨"ObjectLoads$Thing", "<init>", "(III)V"⟩ ∈ ol_all := ol_in1 128 (by decide +kernel) rfl
theorem wd_129 : Cond.instanceMethod ⟨"ObjectLoads$Thing", "<init>", "(III)V"⟩ ∈ ol_all := ol_in1 129 (by decide +kernel) rfl
theorem wd_130 : Cond.code ⟨"ObjectLoads$Thing", "<init>", "(III)V"⟩ prog_11_method_1_code 4 none ∈ ol_all := ol_in1 130 (rfl) rfl
theorem wd_131 : Cond.methodLink "ObjectLoads$Thing" 3 ⟨"java/lang/Object", "<init>", "()V"⟩ ∈ ol_all := ol_in1 131 (by decide +kernel) rfl
theorem wd_132 : Cond.classLink "ObjectLoads$Thing" 9 "ObjectLoads$Thing" ∈ ol_all := ol_in1 132 (by decide +kernel) rfl
theorem wd_133 : Cond.fieldLink "ObjectLoads$Thing" 27 "ObjectLoads$Thing" "number" "I" ∈ ol_all := ol_in1 133 (by decide +kernel) rfl
theorem wd_134 : Cond.fieldLink "ObjectLoads$Graph" 60 "ObjectLoads$Node" "number" "I" ∈ ol_all := ol_in1 134 (by decide +kernel) rfl
theorem wd_135 : Cond.sameField "ObjectLoads$Node" "ObjectLoads$Thing" "number" "I" ∈ ol_all := ol_in1 135 (by decide +kernel) rfl
theorem wd_136 : Cond.fieldLink "ObjectLoads" 126 "ObjectLoads$Node" "number" "I" ∈ ol_all := ol_in1 136 (by decide +kernel) rfl
theorem wd_137 : Cond.fieldLink "ObjectLoads" 207 "ObjectLoads$Thing" "number" "I" ∈ ol_all := ol_in1 137 (by decide +kernel) rfl
theorem wd_138 : Cond.fieldLink "ObjectLoads$Thing" 11 "ObjectLoads$Thing" "places" "[LObjectLoads$Thing;" ∈ ol_all := ol_in1 138 (by decide +kernel) rfl
theorem wd_139 : Cond.fieldLink "ObjectLoads$Masked" 13 "ObjectLoads$Masked" "places" "[LObjectLoads$Thing;" ∈ ol_all := ol_in1 139 (by decide +kernel) rfl
theorem wd_140 : Cond.sameField "ObjectLoads$Masked" "ObjectLoads$Thing" "places" "[LObjectLoads$Thing;" ∈ ol_all := ol_in1 140 (by decide +kernel) rfl
theorem wd_141 : Cond.fieldLink "ObjectLoads$Bridge" 7 "ObjectLoads$Bridge" "places" "[LObjectLoads$Thing;" ∈ ol_all := ol_in1 141 (by decide +kernel) rfl
theorem wd_142 : Cond.sameField "ObjectLoads$Bridge" "ObjectLoads$Thing" "places" "[LObjectLoads$Thing;" ∈ ol_all := ol_in1 142 (by decide +kernel) rfl
theorem wd_143 : Cond.fieldLink "ObjectLoads$City" 19 "ObjectLoads$City" "places" "[LObjectLoads$Thing;" ∈ ol_all := ol_in1 143 (by decide +kernel) rfl
theorem wd_144 : Cond.sameField "ObjectLoads$City" "ObjectLoads$Thing" "places" "[LObjectLoads$Thing;" ∈ ol_all := ol_in1 144 (by decide +kernel) rfl
theorem wd_145 : Cond.fieldLink "ObjectLoads" 70 "ObjectLoads$Thing" "places" "[LObjectLoads$Thing;" ∈ ol_all := ol_in1 145 (by decide +kernel) rfl
theorem wd_146 : Cond.fieldLink "ObjectLoads$Thing" 30 "ObjectLoads$Thing" "key" "I" ∈ ol_all := ol_in1 146 (by decide +kernel) rfl
theorem wd_147 : Cond.fieldLink "ObjectLoads" 56 "ObjectLoads$Thing" "key" "I" ∈ ol_all := ol_in1 147 (by decide +kernel) rfl
theorem wd_148 : Cond.fieldLink "ObjectLoads$Thing" 33 "ObjectLoads$Thing" "v" "I" ∈ ol_all := ol_in1 148 (by decide +kernel) rfl
theorem wd_149 : Cond.fieldLink "ObjectLoads$Broken" 9 "ObjectLoads$Broken" "v" "I" ∈ ol_all := ol_in1 149 (by decide +kernel) rfl
theorem wd_150 : Cond.sameField "ObjectLoads$Broken" "ObjectLoads$Thing" "v" "I" ∈ ol_all := ol_in1 150 (by decide +kernel) rfl
theorem wd_151 : Cond.fieldLink "ObjectLoads$ShortCity" 9 "ObjectLoads$ShortCity" "v" "I" ∈ ol_all := ol_in1 151 (by decide +kernel) rfl
theorem wd_152 : Cond.sameField "ObjectLoads$ShortCity" "ObjectLoads$Thing" "v" "I" ∈ ol_all := ol_in1 152 (by decide +kernel) rfl
theorem wd_153 : Cond.fieldLink "ObjectLoads$City" 9 "ObjectLoads$City" "v" "I" ∈ ol_all := ol_in1 153 (by decide +kernel) rfl
theorem wd_154 : Cond.sameField "ObjectLoads$City" "ObjectLoads$Thing" "v" "I" ∈ ol_all := ol_in1 154 (by decide +kernel) rfl
theorem wd_155 : Cond.fieldLink "ObjectLoads" 53 "ObjectLoads$Thing" "v" "I" ∈ ol_all := ol_in1 155 (by decide +kernel) rfl
theorem wd_156 : Cond.fieldLink "ObjectLoads$Thing" 15 "ObjectLoads$Thing" "next" "LObjectLoads$Thing;" ∈ ol_all := ol_in1 156 (by decide +kernel) rfl
theorem wd_157 : Cond.fieldLink "ObjectLoads$Point" 9 "ObjectLoads$Point" "next" "LObjectLoads$Thing;" ∈ ol_all := ol_in1 157 (by decide +kernel) rfl
theorem wd_158 : Cond.sameField "ObjectLoads$Point" "ObjectLoads$Thing" "next" "LObjectLoads$Thing;" ∈ ol_all := ol_in1 158 (by decide +kernel) rfl
theorem wd_159 : Cond.fieldLink "ObjectLoads" 63 "ObjectLoads$Thing" "next" "LObjectLoads$Thing;" ∈ ol_all := ol_in1 159 (by decide +kernel) rfl
theorem wd_160 : Cond.fieldLink "ObjectLoads$Thing" 19 "ObjectLoads$Thing" "held" "Z" ∈ ol_all := ol_in1 160 (by decide +kernel) rfl
theorem wd_161 : Cond.fieldLink "ObjectLoads$Empty" 9 "ObjectLoads$Empty" "held" "Z" ∈ ol_all := ol_in1 161 (by decide +kernel) rfl
theorem wd_162 : Cond.sameField "ObjectLoads$Empty" "ObjectLoads$Thing" "held" "Z" ∈ ol_all := ol_in1 162 (by decide +kernel) rfl
theorem wd_163 : Cond.fieldLink "ObjectLoads" 73 "ObjectLoads$Thing" "held" "Z" ∈ ol_all := ol_in1 163 (by decide +kernel) rfl
theorem wd_164 : Cond.fieldLink "ObjectLoads$Thing" 23 "ObjectLoads$Thing" "timesAsked" "I" ∈ ol_all := ol_in1 164 (by decide +kernel) rfl
theorem wd_165 : Cond.fieldLink "ObjectLoads" 156 "ObjectLoads$Thing" "timesAsked" "I" ∈ ol_all := ol_in1 165 (by decide +kernel) rfl
theorem wd_166 : Cond.fieldLink "ObjectLoads" 222 "ObjectLoads$Node" "timesAsked" "I" ∈ ol_all := ol_in1 166 (by decide +kernel) rfl
theorem wd_167 : Cond.sameField "ObjectLoads$Node" "ObjectLoads$Thing" "timesAsked" "I" ∈ ol_all := ol_in1 167 (by decide +kernel) rfl
theorem wd_168 : Cond.fieldLink "ObjectLoads" 252 "ObjectLoads$Bridge" "timesAsked" "I" ∈ ol_all := ol_in1 168 (by decide +kernel) rfl
theorem wd_169 : Cond.sameField "ObjectLoads$Bridge" "ObjectLoads$Thing" "timesAsked" "I" ∈ ol_all := ol_in1 169 (by decide +kernel) rfl
theorem wd_184 : Cond.superclass "ObjectLoads$City" "ObjectLoads$Node" ∈ ol_all := ol_in1 184 (by decide +kernel) rfl
theorem wd_185 : Cond.classLink "ObjectLoads" 183 "ObjectLoads$Bridge" ∈ ol_all := ol_in1 185 (by decide +kernel) rfl
theorem wd_186 : Cond.instantiable "ObjectLoads$Bridge" 7 ∈ ol_all := ol_in1 186 (by decide +kernel) rfl
theorem wd_187 : Cond.methodLink "ObjectLoads" 193 ⟨"ObjectLoads$Bridge", "<init>", "(III)V"⟩ ∈ ol_all := ol_in1 187 (by decide +kernel) rfl
theorem wd_188 : Cond.instanceMethod ⟨"ObjectLoads$Bridge", "<init>", "(III)V"⟩ ∈ ol_all := ol_in1 188 (by decide +kernel) rfl
theorem wd_189 : Cond.code ⟨"ObjectLoads$Bridge", "<init>", "(III)V"⟩ prog_2_method_1_code 4 none ∈ ol_all := ol_in1 189 (rfl) rfl
theorem wd_190 : Cond.methodLink "ObjectLoads$Bridge" 1 ⟨"ObjectLoads$Thing", "<init>", "(III)V"⟩ ∈ ol_all := ol_in1 190 (by decide +kernel) rfl
theorem wd_198 : Cond.superclass "ObjectLoads$Bridge" "ObjectLoads$Thing" ∈ ol_all := ol_in1 198 (by decide +kernel) rfl
theorem wd_199 : Cond.classLink "ObjectLoads" 194 "ObjectLoads$Broken" ∈ ol_all := ol_in1 199 (by decide +kernel) rfl
theorem wd_200 : Cond.instantiable "ObjectLoads$Broken" 7 ∈ ol_all := ol_in1 200 (by decide +kernel) rfl
theorem wd_201 : Cond.methodLink "ObjectLoads" 196 ⟨"ObjectLoads$Broken", "<init>", "(III)V"⟩ ∈ ol_all := ol_in1 201 (by decide +kernel) rfl
theorem wd_202 : Cond.instanceMethod ⟨"ObjectLoads$Broken", "<init>", "(III)V"⟩ ∈ ol_all := ol_in1 202 (by decide +kernel) rfl
theorem wd_203 : Cond.code ⟨"ObjectLoads$Broken", "<init>", "(III)V"⟩ prog_3_method_1_code 4 none ∈ ol_all := ol_in1 203 (rfl) rfl
theorem wd_204 : Cond.methodLink "ObjectLoads$Broken" 3 ⟨"ObjectLoads$Point", "<init>", "(III)V"⟩ ∈ ol_all := ol_in1 204 (by decide +kernel) rfl
theorem wd_205 : Cond.instanceMethod ⟨"ObjectLoads$Point", "<init>", "(III)V"⟩ ∈ ol_all := ol_in1 205 (by decide +kernel) rfl
theorem wd_206 : Cond.code ⟨"ObjectLoads$Point", "<init>", "(III)V"⟩ prog_9_method_1_code 4 none ∈ ol_all := ol_in1 206 (rfl) rfl
theorem wd_207 : Cond.methodLink "ObjectLoads$Point" 3 ⟨"ObjectLoads$Node", "<init>", "(III)V"⟩ ∈ ol_all := ol_in1 207 (by decide +kernel) rfl
theorem wd_215 : Cond.superclass "ObjectLoads$Broken" "ObjectLoads$Point" ∈ ol_all := ol_in1 215 (by decide +kernel) rfl
theorem wd_216 : Cond.classLink "ObjectLoads" 86 "ObjectLoads$Masked" ∈ ol_all := ol_in1 216 (by decide +kernel) rfl
theorem wd_217 : Cond.instantiable "ObjectLoads$Masked" 7 ∈ ol_all := ol_in1 217 (by decide +kernel) rfl
theorem wd_218 : Cond.methodLink "ObjectLoads" 197 ⟨"ObjectLoads$Masked", "<init>", "(III)V"⟩ ∈ ol_all := ol_in1 218 (by decide +kernel) rfl
theorem wd_219 : Cond.instanceMethod ⟨"ObjectLoads$Masked", "<init>", "(III)V"⟩ ∈ ol_all := ol_in1 219 (by decide +kernel) rfl
theorem wd_220 : Cond.code ⟨"ObjectLoads$Masked", "<init>", "(III)V"⟩ prog_7_method_1_code 4 none ∈ ol_all := ol_in1 220 (rfl) rfl
theorem wd_221 : Cond.methodLink "ObjectLoads$Masked" 3 ⟨"ObjectLoads$City", "<init>", "(III)V"⟩ ∈ ol_all := ol_in1 221 (by decide +kernel) rfl
theorem wd_229 : Cond.superclass "ObjectLoads$Masked" "ObjectLoads$City" ∈ ol_all := ol_in1 229 (by decide +kernel) rfl
theorem wd_230 : Cond.classLink "ObjectLoads" 198 "ObjectLoads$ShortCity" ∈ ol_all := ol_in1 230 (by decide +kernel) rfl
theorem wd_231 : Cond.instantiable "ObjectLoads$ShortCity" 7 ∈ ol_all := ol_in1 231 (by decide +kernel) rfl
theorem wd_232 : Cond.methodLink "ObjectLoads" 200 ⟨"ObjectLoads$ShortCity", "<init>", "(III)V"⟩ ∈ ol_all := ol_in1 232 (by decide +kernel) rfl
theorem wd_233 : Cond.instanceMethod ⟨"ObjectLoads$ShortCity", "<init>", "(III)V"⟩ ∈ ol_all := ol_in1 233 (by decide +kernel) rfl
theorem wd_234 : Cond.code ⟨"ObjectLoads$ShortCity", "<init>", "(III)V"⟩ prog_10_method_1_code 4 none ∈ ol_all := ol_in1 234 (rfl) rfl
theorem wd_235 : Cond.methodLink "ObjectLoads$ShortCity" 3 ⟨"ObjectLoads$City", "<init>", "(III)V"⟩ ∈ ol_all := ol_in1 235 (by decide +kernel) rfl
theorem wd_243 : Cond.superclass "ObjectLoads$ShortCity" "ObjectLoads$City" ∈ ol_all := ol_in2 3 (by decide +kernel) rfl
theorem wd_244 : Cond.classLink "ObjectLoads" 201 "ObjectLoads$Empty" ∈ ol_all := ol_in2 4 (by decide +kernel) rfl
theorem wd_245 : Cond.instantiable "ObjectLoads$Empty" 7 ∈ ol_all := ol_in2 5 (by decide +kernel) rfl
theorem wd_246 : Cond.methodLink "ObjectLoads" 203 ⟨"ObjectLoads$Empty", "<init>", "(III)V"⟩ ∈ ol_all := ol_in2 6 (by decide +kernel) rfl
theorem wd_247 : Cond.instanceMethod ⟨"ObjectLoads$Empty", "<init>", "(III)V"⟩ ∈ ol_all := ol_in2 7 (by decide +kernel) rfl
theorem wd_248 : Cond.code ⟨"ObjectLoads$Empty", "<init>", "(III)V"⟩ prog_5_method_1_code 4 none ∈ ol_all := ol_in2 8 (rfl) rfl
theorem wd_249 : Cond.methodLink "ObjectLoads$Empty" 3 ⟨"ObjectLoads$Point", "<init>", "(III)V"⟩ ∈ ol_all := ol_in2 9 (by decide +kernel) rfl
theorem wd_257 : Cond.superclass "ObjectLoads$Empty" "ObjectLoads$Point" ∈ ol_all := ol_in2 17 (by decide +kernel) rfl
theorem wd_258 : Cond.classLink "ObjectLoads" 204 "ObjectLoads$Point" ∈ ol_all := ol_in2 18 (by decide +kernel) rfl
theorem wd_259 : Cond.instantiable "ObjectLoads$Point" 7 ∈ ol_all := ol_in2 19 (by decide +kernel) rfl
theorem wd_260 : Cond.methodLink "ObjectLoads" 206 ⟨"ObjectLoads$Point", "<init>", "(III)V"⟩ ∈ ol_all := ol_in2 20 (by decide +kernel) rfl
theorem wd_268 : Cond.superclass "ObjectLoads$Point" "ObjectLoads$Node" ∈ ol_all := ol_in2 28 (by decide +kernel) rfl
theorem wd_269 : Cond.methodLink "ObjectLoadsLaw" 18 ⟨"ObjectLoads", "value", "(II)I"⟩ ∈ ol_all := ol_in2 29 (by decide +kernel) rfl
theorem wd_270 : Cond.instanceMethod ⟨"ObjectLoads", "value", "(II)I"⟩ ∈ ol_all := ol_in2 30 (by decide +kernel) rfl
theorem wd_271 : Cond.selects "ObjectLoads" ⟨"ObjectLoads", "value", "(II)I"⟩ ⟨"ObjectLoads", "value", "(II)I"⟩ ∈ ol_all := ol_in2 31 (by decide +kernel) rfl
theorem wd_272 : Cond.code ⟨"ObjectLoads", "value", "(II)I"⟩ prog_1_method_3_code 5 (some FieldType.int) ∈ ol_all := ol_in2 32 (rfl) rfl
theorem wd_273 : Cond.methodLink "ObjectLoads" 48 ⟨"ObjectLoads", "known", "(I)LObjectLoads$Thing;"⟩ ∈ ol_all := ol_in2 33 (by decide +kernel) rfl
theorem wd_275 : Cond.instanceMethod ⟨"ObjectLoads", "known", "(I)LObjectLoads$Thing;"⟩ ∈ ol_all := ol_in2 35 (by decide +kernel) rfl
theorem wd_276 : Cond.code ⟨"ObjectLoads", "known", "(I)LObjectLoads$Thing;"⟩ prog_1_method_26_code 2 (some (FieldType.object "ObjectLoads$Thing")) ∈ ol_all := ol_in2 36 (rfl) rfl
theorem wd_277 : Cond.methodLink "ObjectLoads" 112 ⟨"ObjectLoads", "isThing", "(I)Z"⟩ ∈ ol_all := ol_in2 37 (by decide +kernel) rfl
theorem wd_279 : Cond.instanceMethod ⟨"ObjectLoads", "isThing", "(I)Z"⟩ ∈ ol_all := ol_in2 39 (by decide +kernel) rfl
theorem wd_280 : Cond.code ⟨"ObjectLoads", "isThing", "(I)Z"⟩ prog_1_method_24_code 2 (some FieldType.boolean) ∈ ol_all := ol_in2 40 (rfl) rfl
theorem wd_281 : Cond.constant "ObjectLoads" 52 (-1000001) ∈ ol_all := ol_in2 41 (by decide +kernel) rfl
theorem wd_282 : Cond.methodLink "ObjectLoadsLaw" 23 ⟨"ObjectLoads", "key", "(II)I"⟩ ∈ ol_all := ol_in2 42 (by decide +kernel) rfl
theorem wd_283 : Cond.instanceMethod ⟨"ObjectLoads", "key", "(II)I"⟩ ∈ ol_all := ol_in2 43 (by decide +kernel) rfl
theorem wd_284 : Cond.selects "ObjectLoads" ⟨"ObjectLoads", "key", "(II)I"⟩ ⟨"ObjectLoads", "key", "(II)I"⟩ ∈ ol_all := ol_in2 44 (by decide +kernel) rfl
theorem wd_285 : Cond.code ⟨"ObjectLoads", "key", "(II)I"⟩ prog_1_method_4_code 5 (some FieldType.int) ∈ ol_all := ol_in2 45 (rfl) rfl
theorem wd_286 : Cond.methodLink "ObjectLoadsLaw" 27 ⟨"ObjectLoads", "next", "(II)I"⟩ ∈ ol_all := ol_in2 46 (by decide +kernel) rfl
theorem wd_287 : Cond.instanceMethod ⟨"ObjectLoads", "next", "(II)I"⟩ ∈ ol_all := ol_in2 47 (by decide +kernel) rfl
theorem wd_288 : Cond.selects "ObjectLoads" ⟨"ObjectLoads", "next", "(II)I"⟩ ⟨"ObjectLoads", "next", "(II)I"⟩ ∈ ol_all := ol_in2 48 (by decide +kernel) rfl
theorem wd_289 : Cond.code ⟨"ObjectLoads", "next", "(II)I"⟩ prog_1_method_5_code 4 (some FieldType.int) ∈ ol_all := ol_in2 49 (rfl) rfl
theorem wd_290 : Cond.methodLink "ObjectLoads" 59 ⟨"ObjectLoads", "isThingOrNone", "(I)Z"⟩ ∈ ol_all := ol_in2 50 (by decide +kernel) rfl
theorem wd_292 : Cond.instanceMethod ⟨"ObjectLoads", "isThingOrNone", "(I)Z"⟩ ∈ ol_all := ol_in2 52 (by decide +kernel) rfl
theorem wd_293 : Cond.code ⟨"ObjectLoads", "isThingOrNone", "(I)Z"⟩ prog_1_method_25_code 2 (some FieldType.boolean) ∈ ol_all := ol_in2 53 (rfl) rfl
theorem wd_294 : Cond.methodLink "ObjectLoadsLaw" 31 ⟨"ObjectLoads", "place", "(III)I"⟩ ∈ ol_all := ol_in2 54 (by decide +kernel) rfl
theorem wd_295 : Cond.instanceMethod ⟨"ObjectLoads", "place", "(III)I"⟩ ∈ ol_all := ol_in2 55 (by decide +kernel) rfl
theorem wd_296 : Cond.selects "ObjectLoads" ⟨"ObjectLoads", "place", "(III)I"⟩ ⟨"ObjectLoads", "place", "(III)I"⟩ ∈ ol_all := ol_in2 56 (by decide +kernel) rfl
theorem wd_297 : Cond.code ⟨"ObjectLoads", "place", "(III)I"⟩ prog_1_method_6_code 5 (some FieldType.int) ∈ ol_all := ol_in2 57 (rfl) rfl
theorem wd_298 : Cond.methodLink "ObjectLoads" 67 ⟨"ObjectLoads", "isPlace", "(I)Z"⟩ ∈ ol_all := ol_in2 58 (by decide +kernel) rfl
theorem wd_299 : Cond.static ⟨"ObjectLoads", "isPlace", "(I)Z"⟩ ∈ ol_all := ol_in2 59 (by decide +kernel) rfl
theorem wd_300 : Cond.code ⟨"ObjectLoads", "isPlace", "(I)Z"⟩ prog_1_method_27_code 1 (some FieldType.boolean) ∈ ol_all := ol_in2 60 (rfl) rfl
theorem wd_301 : Cond.methodLink "ObjectLoadsLaw" 35 ⟨"ObjectLoads", "hold", "(IZ)I"⟩ ∈ ol_all := ol_in2 61 (by decide +kernel) rfl
theorem wd_302 : Cond.instanceMethod ⟨"ObjectLoads", "hold", "(IZ)I"⟩ ∈ ol_all := ol_in2 62 (by decide +kernel) rfl
theorem wd_303 : Cond.selects "ObjectLoads" ⟨"ObjectLoads", "hold", "(IZ)I"⟩ ⟨"ObjectLoads", "hold", "(IZ)I"⟩ ∈ ol_all := ol_in2 63 (by decide +kernel) rfl
theorem wd_304 : Cond.code ⟨"ObjectLoads", "hold", "(IZ)I"⟩ prog_1_method_7_code 5 (some FieldType.int) ∈ ol_all := ol_in2 64 (rfl) rfl
theorem wd_305 : Cond.methodLink "ObjectLoads" 77 ⟨"ObjectLoads", "asNumber", "(Z)I"⟩ ∈ ol_all := ol_in2 65 (by decide +kernel) rfl
theorem wd_306 : Cond.static ⟨"ObjectLoads", "asNumber", "(Z)I"⟩ ∈ ol_all := ol_in2 66 (by decide +kernel) rfl
theorem wd_307 : Cond.code ⟨"ObjectLoads", "asNumber", "(Z)I"⟩ prog_1_method_29_code 1 (some FieldType.int) ∈ ol_all := ol_in2 67 (rfl) rfl
theorem wd_308 : Cond.methodLink "ObjectLoadsLaw" 40 ⟨"ObjectLoads", "copy", "(IIIII)I"⟩ ∈ ol_all := ol_in2 68 (by decide +kernel) rfl
theorem wd_309 : Cond.instanceMethod ⟨"ObjectLoads", "copy", "(IIIII)I"⟩ ∈ ol_all := ol_in2 69 (by decide +kernel) rfl
theorem wd_310 : Cond.selects "ObjectLoads" ⟨"ObjectLoads", "copy", "(IIIII)I"⟩ ⟨"ObjectLoads", "copy", "(IIIII)I"⟩ ∈ ol_all := ol_in2 70 (by decide +kernel) rfl
theorem wd_311 : Cond.code ⟨"ObjectLoads", "copy", "(IIIII)I"⟩ prog_1_method_8_code 9 (some FieldType.int) ∈ ol_all := ol_in2 71 (rfl) rfl
theorem wd_312 : Cond.methodLink "ObjectLoads" 81 ⟨"ObjectLoads", "isStretch", "(II)Z"⟩ ∈ ol_all := ol_in2 72 (by decide +kernel) rfl
theorem wd_313 : Cond.static ⟨"ObjectLoads", "isStretch", "(II)Z"⟩ ∈ ol_all := ol_in2 73 (by decide +kernel) rfl
theorem wd_314 : Cond.code ⟨"ObjectLoads", "isStretch", "(II)Z"⟩ prog_1_method_28_code 2 (some FieldType.boolean) ∈ ol_all := ol_in2 74 (rfl) rfl
theorem wd_315 : Cond.constant "ObjectLoads" 85 (-1000012) ∈ ol_all := ol_in2 75 (by decide +kernel) rfl
theorem wd_316 : Cond.methodLink "ObjectLoads" 88 ⟨"ObjectLoads", "countUpToBridge", "([LObjectLoads$Thing;II)I"⟩ ∈ ol_all := ol_in2 76 (by decide +kernel) rfl
theorem wd_317 : Cond.static ⟨"ObjectLoads", "countUpToBridge", "([LObjectLoads$Thing;II)I"⟩ ∈ ol_all := ol_in2 77 (by decide +kernel) rfl
theorem wd_318 : Cond.code ⟨"ObjectLoads", "countUpToBridge", "([LObjectLoads$Thing;II)I"⟩ prog_1_method_31_code 4 (some FieldType.int) ∈ ol_all := ol_in2 78 (rfl) rfl
theorem wd_319 : Cond.methodLink "ObjectLoads" 92 ⟨"ObjectLoads", "copyStretch", "([LObjectLoads$Thing;I[LObjectLoads$Thing;II)V"⟩ ∈ ol_all := ol_in2 79 (by decide +kernel) rfl
theorem wd_320 : Cond.static ⟨"ObjectLoads", "copyStretch", "([LObjectLoads$Thing;I[LObjectLoads$Thing;II)V"⟩ ∈ ol_all := ol_in2 80 (by decide +kernel) rfl
theorem wd_321 : Cond.code ⟨"ObjectLoads", "copyStretch", "([LObjectLoads$Thing;I[LObjectLoads$Thing;II)V"⟩ prog_1_method_32_code 6 none ∈ ol_all := ol_in2 81 (rfl) rfl
theorem wd_322 : Cond.constant "ObjectLoads" 96 (-1000015) ∈ ol_all := ol_in2 82 (by decide +kernel) rfl
theorem wd_323 : Cond.methodLink "ObjectLoadsLaw" 45 ⟨"ObjectLoads", "load", "(IZ)I"⟩ ∈ ol_all := ol_in2 83 (by decide +kernel) rfl
theorem wd_324 : Cond.instanceMethod ⟨"ObjectLoads", "load", "(IZ)I"⟩ ∈ ol_all := ol_in2 84 (by decide +kernel) rfl
theorem wd_325 : Cond.selects "ObjectLoads" ⟨"ObjectLoads", "load", "(IZ)I"⟩ ⟨"ObjectLoads", "load", "(IZ)I"⟩ ∈ ol_all := ol_in2 85 (by decide +kernel) rfl
theorem wd_326 : Cond.code ⟨"ObjectLoads", "load", "(IZ)I"⟩ prog_1_method_9_code 6 (some FieldType.int) ∈ ol_all := ol_in2 86 (rfl) rfl
theorem wd_327 : Cond.classLink "ObjectLoads" 97 "ObjectLoads$Node" ∈ ol_all := ol_in2 87 (by decide +kernel) rfl
theorem wd_328 : Cond.constant "ObjectLoads" 99 (-1000003) ∈ ol_all := ol_in2 88 (by decide +kernel) rfl
theorem wd_329 : Cond.methodLink "ObjectLoads" 100 ⟨"ObjectLoads", "endLoad", "(III)V"⟩ ∈ ol_all := ol_in2 89 (by decide +kernel) rfl
theorem wd_331 : Cond.instanceMethod ⟨"ObjectLoads", "endLoad", "(III)V"⟩ ∈ ol_all := ol_in2 91 (by decide +kernel) rfl
theorem wd_332 : Cond.code ⟨"ObjectLoads", "endLoad", "(III)V"⟩ prog_1_method_33_code 4 none ∈ ol_all := ol_in2 92 (rfl) rfl
theorem wd_333 : Cond.methodLink "ObjectLoads" 104 ⟨"ObjectLoads", "build", "(LObjectLoads$Node;Z)Z"⟩ ∈ ol_all := ol_in2 93 (by decide +kernel) rfl
theorem wd_335 : Cond.instanceMethod ⟨"ObjectLoads", "build", "(LObjectLoads$Node;Z)Z"⟩ ∈ ol_all := ol_in2 95 (by decide +kernel) rfl
theorem wd_336 : Cond.code ⟨"ObjectLoads", "build", "(LObjectLoads$Node;Z)Z"⟩ prog_1_method_35_code 6 (some FieldType.boolean) ∈ ol_all := ol_in2 96 (rfl) rfl
theorem wd_337 : Cond.methodLink "ObjectLoads" 188 ⟨"ObjectLoads$Graph", "makeEmpty", "()V"⟩ ∈ ol_all := ol_in2 97 (by decide +kernel) rfl
theorem wd_338 : Cond.instanceMethod ⟨"ObjectLoads$Graph", "makeEmpty", "()V"⟩ ∈ ol_all := ol_in2 98 (by decide +kernel) rfl
theorem wd_339 : Cond.selects "ObjectLoads$Graph" ⟨"ObjectLoads$Graph", "makeEmpty", "()V"⟩ ⟨"ObjectLoads$Graph", "makeEmpty", "()V"⟩ ∈ ol_all := ol_in2 99 (by decide +kernel) rfl
theorem wd_340 : Cond.code ⟨"ObjectLoads$Graph", "makeEmpty", "()V"⟩ prog_6_method_2_code 1 none ∈ ol_all := ol_in2 100 (rfl) rfl
theorem wd_341 : Cond.methodLink "ObjectLoads" 208 ⟨"ObjectLoads$Graph", "findNode", "(LObjectLoads$Node;)I"⟩ ∈ ol_all := ol_in2 101 (by decide +kernel) rfl
theorem wd_342 : Cond.instanceMethod ⟨"ObjectLoads$Graph", "findNode", "(LObjectLoads$Node;)I"⟩ ∈ ol_all := ol_in2 102 (by decide +kernel) rfl
theorem wd_343 : Cond.selects "ObjectLoads$Graph" ⟨"ObjectLoads$Graph", "findNode", "(LObjectLoads$Node;)I"⟩ ⟨"ObjectLoads$Graph", "findNode", "(LObjectLoads$Node;)I"⟩ ∈ ol_all := ol_in2 103 (by decide +kernel) rfl
theorem wd_344 : Cond.code ⟨"ObjectLoads$Graph", "findNode", "(LObjectLoads$Node;)I"⟩ prog_6_method_5_code 3 (some FieldType.int) ∈ ol_all := ol_in2 104 (rfl) rfl
theorem wd_345 : Cond.methodLink "ObjectLoads" 212 ⟨"ObjectLoads", "askKey", "(ILObjectLoads$Node;)Z"⟩ ∈ ol_all := ol_in2 105 (by decide +kernel) rfl
theorem wd_347 : Cond.instanceMethod ⟨"ObjectLoads", "askKey", "(ILObjectLoads$Node;)Z"⟩ ∈ ol_all := ol_in2 107 (by decide +kernel) rfl
theorem wd_348 : Cond.code ⟨"ObjectLoads", "askKey", "(ILObjectLoads$Node;)Z"⟩ prog_1_method_36_code 7 (some FieldType.boolean) ∈ ol_all := ol_in2 108 (rfl) rfl
theorem wd_349 : Cond.methodLink "ObjectLoads" 223 ⟨"ObjectLoads$Node", "keyCause", "()I"⟩ ∈ ol_all := ol_in2 109 (by decide +kernel) rfl
theorem wd_350 : Cond.sameMethod "ObjectLoads$Node" "ObjectLoads$Thing" "keyCause" "()I" ∈ ol_all := ol_in2 110 (by decide +kernel) rfl
theorem wd_352 : Cond.selects "ObjectLoads$Broken" ⟨"ObjectLoads$Node", "keyCause", "()I"⟩ ⟨"ObjectLoads$Thing", "keyCause", "()I"⟩ ∈ ol_all := ol_in2 112 (by decide +kernel) rfl
theorem wd_353 : Cond.selects "ObjectLoads$City" ⟨"ObjectLoads$Node", "keyCause", "()I"⟩ ⟨"ObjectLoads$Thing", "keyCause", "()I"⟩ ∈ ol_all := ol_in2 113 (by decide +kernel) rfl
theorem wd_354 : Cond.selects "ObjectLoads$Empty" ⟨"ObjectLoads$Node", "keyCause", "()I"⟩ ⟨"ObjectLoads$Empty", "keyCause", "()I"⟩ ∈ ol_all := ol_in2 114 (by decide +kernel) rfl
theorem wd_355 : Cond.instanceMethod ⟨"ObjectLoads$Empty", "keyCause", "()I"⟩ ∈ ol_all := ol_in2 115 (by decide +kernel) rfl
theorem wd_356 : Cond.code ⟨"ObjectLoads$Empty", "keyCause", "()I"⟩ prog_5_method_2_code 1 (some FieldType.int) ∈ ol_all := ol_in2 116 (rfl) rfl
theorem wd_357 : Cond.selects "ObjectLoads$Masked" ⟨"ObjectLoads$Node", "keyCause", "()I"⟩ ⟨"ObjectLoads$Thing", "keyCause", "()I"⟩ ∈ ol_all := ol_in2 117 (by decide +kernel) rfl
theorem wd_358 : Cond.selects "ObjectLoads$Point" ⟨"ObjectLoads$Node", "keyCause", "()I"⟩ ⟨"ObjectLoads$Thing", "keyCause", "()I"⟩ ∈ ol_all := ol_in2 118 (by decide +kernel) rfl
theorem wd_359 : Cond.selects "ObjectLoads$ShortCity" ⟨"ObjectLoads$Node", "keyCause", "()I"⟩ ⟨"ObjectLoads$Thing", "keyCause", "()I"⟩ ∈ ol_all := ol_in2 119 (by decide +kernel) rfl
theorem wd_360 : Cond.instanceMethod ⟨"ObjectLoads$Thing", "keyCause", "()I"⟩ ∈ ol_all := ol_in2 120 (by decide +kernel) rfl
theorem wd_361 : Cond.code ⟨"ObjectLoads$Thing", "keyCause", "()I"⟩ prog_11_method_2_code 1 (some FieldType.int) ∈ ol_all := ol_in2 121 (rfl) rfl
theorem wd_362 : Cond.methodLink "ObjectLoads" 224 ⟨"ObjectLoads", "failed", "(LObjectLoads$Thing;I)Z"⟩ ∈ ol_all := ol_in2 122 (by decide +kernel) rfl
theorem wd_364 : Cond.instanceMethod ⟨"ObjectLoads", "failed", "(LObjectLoads$Thing;I)Z"⟩ ∈ ol_all := ol_in2 124 (by decide +kernel) rfl
theorem wd_365 : Cond.code ⟨"ObjectLoads", "failed", "(LObjectLoads$Thing;I)Z"⟩ prog_1_method_34_code 3 (some FieldType.boolean) ∈ ol_all := ol_in2 125 (rfl) rfl
theorem wd_366 : Cond.methodLink "ObjectLoads" 228 ⟨"ObjectLoads$Node", "toldKey", "()I"⟩ ∈ ol_all := ol_in2 126 (by decide +kernel) rfl
theorem wd_367 : Cond.sameMethod "ObjectLoads$Node" "ObjectLoads$Thing" "toldKey" "()I" ∈ ol_all := ol_in2 127 (by decide +kernel) rfl
theorem wd_369 : Cond.selects "ObjectLoads$Broken" ⟨"ObjectLoads$Node", "toldKey", "()I"⟩ ⟨"ObjectLoads$Thing", "toldKey", "()I"⟩ ∈ ol_all := ol_in2 129 (by decide +kernel) rfl
theorem wd_370 : Cond.selects "ObjectLoads$City" ⟨"ObjectLoads$Node", "toldKey", "()I"⟩ ⟨"ObjectLoads$Thing", "toldKey", "()I"⟩ ∈ ol_all := ol_in2 130 (by decide +kernel) rfl
theorem wd_371 : Cond.selects "ObjectLoads$Empty" ⟨"ObjectLoads$Node", "toldKey", "()I"⟩ ⟨"ObjectLoads$Thing", "toldKey", "()I"⟩ ∈ ol_all := ol_in2 131 (by decide +kernel) rfl
theorem wd_372 : Cond.selects "ObjectLoads$Masked" ⟨"ObjectLoads$Node", "toldKey", "()I"⟩ ⟨"ObjectLoads$Thing", "toldKey", "()I"⟩ ∈ ol_all := ol_in2 132 (by decide +kernel) rfl
theorem wd_373 : Cond.selects "ObjectLoads$Point" ⟨"ObjectLoads$Node", "toldKey", "()I"⟩ ⟨"ObjectLoads$Thing", "toldKey", "()I"⟩ ∈ ol_all := ol_in2 133 (by decide +kernel) rfl
theorem wd_374 : Cond.selects "ObjectLoads$ShortCity" ⟨"ObjectLoads$Node", "toldKey", "()I"⟩ ⟨"ObjectLoads$Thing", "toldKey", "()I"⟩ ∈ ol_all := ol_in2 134 (by decide +kernel) rfl
theorem wd_375 : Cond.instanceMethod ⟨"ObjectLoads$Thing", "toldKey", "()I"⟩ ∈ ol_all := ol_in2 135 (by decide +kernel) rfl
theorem wd_376 : Cond.code ⟨"ObjectLoads$Thing", "toldKey", "()I"⟩ prog_11_method_3_code 1 (some FieldType.int) ∈ ol_all := ol_in2 136 (rfl) rfl
theorem wd_377 : Cond.methodLink "ObjectLoads" 216 ⟨"ObjectLoads", "askValue", "(ILObjectLoads$Node;)Z"⟩ ∈ ol_all := ol_in2 137 (by decide +kernel) rfl
theorem wd_379 : Cond.instanceMethod ⟨"ObjectLoads", "askValue", "(ILObjectLoads$Node;)Z"⟩ ∈ ol_all := ol_in2 139 (by decide +kernel) rfl
theorem wd_380 : Cond.code ⟨"ObjectLoads", "askValue", "(ILObjectLoads$Node;)Z"⟩ prog_1_method_37_code 4 (some FieldType.boolean) ∈ ol_all := ol_in2 140 (rfl) rfl
theorem wd_381 : Cond.methodLink "ObjectLoads" 229 ⟨"ObjectLoads$Node", "valueCause", "()I"⟩ ∈ ol_all := ol_in2 141 (by decide +kernel) rfl
theorem wd_382 : Cond.sameMethod "ObjectLoads$Node" "ObjectLoads$Thing" "valueCause" "()I" ∈ ol_all := ol_in2 142 (by decide +kernel) rfl
theorem wd_384 : Cond.selects "ObjectLoads$Broken" ⟨"ObjectLoads$Node", "valueCause", "()I"⟩ ⟨"ObjectLoads$Broken", "valueCause", "()I"⟩ ∈ ol_all := ol_in2 144 (by decide +kernel) rfl
theorem wd_385 : Cond.instanceMethod ⟨"ObjectLoads$Broken", "valueCause", "()I"⟩ ∈ ol_all := ol_in2 145 (by decide +kernel) rfl
theorem wd_386 : Cond.code ⟨"ObjectLoads$Broken", "valueCause", "()I"⟩ prog_3_method_2_code 1 (some FieldType.int) ∈ ol_all := ol_in2 146 (rfl) rfl
theorem wd_387 : Cond.selects "ObjectLoads$City" ⟨"ObjectLoads$Node", "valueCause", "()I"⟩ ⟨"ObjectLoads$Thing", "valueCause", "()I"⟩ ∈ ol_all := ol_in2 147 (by decide +kernel) rfl
theorem wd_388 : Cond.selects "ObjectLoads$Empty" ⟨"ObjectLoads$Node", "valueCause", "()I"⟩ ⟨"ObjectLoads$Thing", "valueCause", "()I"⟩ ∈ ol_all := ol_in2 148 (by decide +kernel) rfl
theorem wd_389 : Cond.selects "ObjectLoads$Masked" ⟨"ObjectLoads$Node", "valueCause", "()I"⟩ ⟨"ObjectLoads$Thing", "valueCause", "()I"⟩ ∈ ol_all := ol_in2 149 (by decide +kernel) rfl
theorem wd_390 : Cond.selects "ObjectLoads$Point" ⟨"ObjectLoads$Node", "valueCause", "()I"⟩ ⟨"ObjectLoads$Thing", "valueCause", "()I"⟩ ∈ ol_all := ol_in2 150 (by decide +kernel) rfl
theorem wd_391 : Cond.selects "ObjectLoads$ShortCity" ⟨"ObjectLoads$Node", "valueCause", "()I"⟩ ⟨"ObjectLoads$Thing", "valueCause", "()I"⟩ ∈ ol_all := ol_in2 151 (by decide +kernel) rfl
theorem wd_392 : Cond.instanceMethod ⟨"ObjectLoads$Thing", "valueCause", "()I"⟩ ∈ ol_all := ol_in2 152 (by decide +kernel) rfl
theorem wd_393 : Cond.code ⟨"ObjectLoads$Thing", "valueCause", "()I"⟩ prog_11_method_4_code 1 (some FieldType.int) ∈ ol_all := ol_in2 153 (rfl) rfl
theorem wd_394 : Cond.methodLink "ObjectLoads" 230 ⟨"ObjectLoads$Node", "toldValue", "()I"⟩ ∈ ol_all := ol_in2 154 (by decide +kernel) rfl
theorem wd_395 : Cond.sameMethod "ObjectLoads$Node" "ObjectLoads$Thing" "toldValue" "()I" ∈ ol_all := ol_in2 155 (by decide +kernel) rfl
theorem wd_397 : Cond.selects "ObjectLoads$Broken" ⟨"ObjectLoads$Node", "toldValue", "()I"⟩ ⟨"ObjectLoads$Broken", "toldValue", "()I"⟩ ∈ ol_all := ol_in2 157 (by decide +kernel) rfl
theorem wd_398 : Cond.instanceMethod ⟨"ObjectLoads$Broken", "toldValue", "()I"⟩ ∈ ol_all := ol_in2 158 (by decide +kernel) rfl
theorem wd_399 : Cond.code ⟨"ObjectLoads$Broken", "toldValue", "()I"⟩ prog_3_method_3_code 1 (some FieldType.int) ∈ ol_all := ol_in2 159 (rfl) rfl
theorem wd_400 : Cond.selects "ObjectLoads$City" ⟨"ObjectLoads$Node", "toldValue", "()I"⟩ ⟨"ObjectLoads$City", "toldValue", "()I"⟩ ∈ ol_all := ol_in2 160 (by decide +kernel) rfl
theorem wd_401 : Cond.instanceMethod ⟨"ObjectLoads$City", "toldValue", "()I"⟩ ∈ ol_all := ol_in2 161 (by decide +kernel) rfl
theorem wd_402 : Cond.code ⟨"ObjectLoads$City", "toldValue", "()I"⟩ prog_4_method_2_code 1 (some FieldType.int) ∈ ol_all := ol_in2 162 (rfl) rfl
theorem wd_403 : Cond.selects "ObjectLoads$Empty" ⟨"ObjectLoads$Node", "toldValue", "()I"⟩ ⟨"ObjectLoads$Thing", "toldValue", "()I"⟩ ∈ ol_all := ol_in2 163 (by decide +kernel) rfl
theorem wd_404 : Cond.selects "ObjectLoads$Masked" ⟨"ObjectLoads$Node", "toldValue", "()I"⟩ ⟨"ObjectLoads$Masked", "toldValue", "()I"⟩ ∈ ol_all := ol_in2 164 (by decide +kernel) rfl
theorem wd_405 : Cond.instanceMethod ⟨"ObjectLoads$Masked", "toldValue", "()I"⟩ ∈ ol_all := ol_in2 165 (by decide +kernel) rfl
theorem wd_406 : Cond.code ⟨"ObjectLoads$Masked", "toldValue", "()I"⟩ prog_7_method_2_code 1 (some FieldType.int) ∈ ol_all := ol_in2 166 (rfl) rfl
theorem wd_407 : Cond.methodLink "ObjectLoads$Masked" 9 ⟨"ObjectLoads$City", "toldValue", "()I"⟩ ∈ ol_all := ol_in2 167 (by decide +kernel) rfl
theorem wd_408 : Cond.selects "ObjectLoads$Point" ⟨"ObjectLoads$Node", "toldValue", "()I"⟩ ⟨"ObjectLoads$Thing", "toldValue", "()I"⟩ ∈ ol_all := ol_in2 168 (by decide +kernel) rfl
theorem wd_409 : Cond.selects "ObjectLoads$ShortCity" ⟨"ObjectLoads$Node", "toldValue", "()I"⟩ ⟨"ObjectLoads$ShortCity", "toldValue", "()I"⟩ ∈ ol_all := ol_in2 169 (by decide +kernel) rfl
theorem wd_410 : Cond.instanceMethod ⟨"ObjectLoads$ShortCity", "toldValue", "()I"⟩ ∈ ol_all := ol_in2 170 (by decide +kernel) rfl
theorem wd_411 : Cond.code ⟨"ObjectLoads$ShortCity", "toldValue", "()I"⟩ prog_10_method_2_code 1 (some FieldType.int) ∈ ol_all := ol_in2 171 (rfl) rfl
theorem wd_412 : Cond.instanceMethod ⟨"ObjectLoads$Thing", "toldValue", "()I"⟩ ∈ ol_all := ol_in2 172 (by decide +kernel) rfl
theorem wd_413 : Cond.code ⟨"ObjectLoads$Thing", "toldValue", "()I"⟩ prog_11_method_5_code 1 (some FieldType.int) ∈ ol_all := ol_in2 173 (rfl) rfl
theorem wd_414 : Cond.methodLink "ObjectLoads" 219 ⟨"ObjectLoads", "askLinks", "(ILObjectLoads$Node;)Z"⟩ ∈ ol_all := ol_in2 174 (by decide +kernel) rfl
theorem wd_416 : Cond.instanceMethod ⟨"ObjectLoads", "askLinks", "(ILObjectLoads$Node;)Z"⟩ ∈ ol_all := ol_in2 176 (by decide +kernel) rfl
theorem wd_417 : Cond.code ⟨"ObjectLoads", "askLinks", "(ILObjectLoads$Node;)Z"⟩ prog_1_method_38_code 6 (some FieldType.boolean) ∈ ol_all := ol_in2 177 (rfl) rfl
theorem wd_418 : Cond.methodLink "ObjectLoads" 231 ⟨"ObjectLoads$Node", "linksCause", "()I"⟩ ∈ ol_all := ol_in2 178 (by decide +kernel) rfl
theorem wd_419 : Cond.sameMethod "ObjectLoads$Node" "ObjectLoads$Thing" "linksCause" "()I" ∈ ol_all := ol_in2 179 (by decide +kernel) rfl
theorem wd_421 : Cond.selects "ObjectLoads$Broken" ⟨"ObjectLoads$Node", "linksCause", "()I"⟩ ⟨"ObjectLoads$Point", "linksCause", "()I"⟩ ∈ ol_all := ol_in2 181 (by decide +kernel) rfl
theorem wd_422 : Cond.instanceMethod ⟨"ObjectLoads$Point", "linksCause", "()I"⟩ ∈ ol_all := ol_in2 182 (by decide +kernel) rfl
theorem wd_423 : Cond.code ⟨"ObjectLoads$Point", "linksCause", "()I"⟩ prog_9_method_2_code 1 (some FieldType.int) ∈ ol_all := ol_in2 183 (rfl) rfl
theorem wd_424 : Cond.classLink "ObjectLoads$Point" 15 "ObjectLoads$Bridge" ∈ ol_all := ol_in2 184 (by decide +kernel) rfl
theorem wd_425 : Cond.selects "ObjectLoads$City" ⟨"ObjectLoads$Node", "linksCause", "()I"⟩ ⟨"ObjectLoads$Thing", "linksCause", "()I"⟩ ∈ ol_all := ol_in2 185 (by decide +kernel) rfl
theorem wd_426 : Cond.selects "ObjectLoads$Empty" ⟨"ObjectLoads$Node", "linksCause", "()I"⟩ ⟨"ObjectLoads$Point", "linksCause", "()I"⟩ ∈ ol_all := ol_in2 186 (by decide +kernel) rfl
theorem wd_427 : Cond.selects "ObjectLoads$Masked" ⟨"ObjectLoads$Node", "linksCause", "()I"⟩ ⟨"ObjectLoads$Masked", "linksCause", "()I"⟩ ∈ ol_all := ol_in2 187 (by decide +kernel) rfl
theorem wd_428 : Cond.instanceMethod ⟨"ObjectLoads$Masked", "linksCause", "()I"⟩ ∈ ol_all := ol_in2 188 (by decide +kernel) rfl
theorem wd_429 : Cond.code ⟨"ObjectLoads$Masked", "linksCause", "()I"⟩ prog_7_method_3_code 1 (some FieldType.int) ∈ ol_all := ol_in2 189 (rfl) rfl
theorem wd_431 : Cond.selects "ObjectLoads$Point" ⟨"ObjectLoads$Node", "linksCause", "()I"⟩ ⟨"ObjectLoads$Point", "linksCause", "()I"⟩ ∈ ol_all := ol_in2 191 (by decide +kernel) rfl
theorem wd_432 : Cond.selects "ObjectLoads$ShortCity" ⟨"ObjectLoads$Node", "linksCause", "()I"⟩ ⟨"ObjectLoads$ShortCity", "linksCause", "()I"⟩ ∈ ol_all := ol_in2 192 (by decide +kernel) rfl
theorem wd_433 : Cond.instanceMethod ⟨"ObjectLoads$ShortCity", "linksCause", "()I"⟩ ∈ ol_all := ol_in2 193 (by decide +kernel) rfl
theorem wd_434 : Cond.code ⟨"ObjectLoads$ShortCity", "linksCause", "()I"⟩ prog_10_method_3_code 1 (some FieldType.int) ∈ ol_all := ol_in2 194 (rfl) rfl
theorem wd_436 : Cond.instanceMethod ⟨"ObjectLoads$Thing", "linksCause", "()I"⟩ ∈ ol_all := ol_in2 196 (by decide +kernel) rfl
theorem wd_437 : Cond.code ⟨"ObjectLoads$Thing", "linksCause", "()I"⟩ prog_11_method_6_code 1 (some FieldType.int) ∈ ol_all := ol_in2 197 (rfl) rfl
theorem wd_438 : Cond.methodLink "ObjectLoads" 232 ⟨"ObjectLoads$Node", "linkCount", "()I"⟩ ∈ ol_all := ol_in2 198 (by decide +kernel) rfl
theorem wd_439 : Cond.sameMethod "ObjectLoads$Node" "ObjectLoads$Thing" "linkCount" "()I" ∈ ol_all := ol_in2 199 (by decide +kernel) rfl
theorem wd_441 : Cond.selects "ObjectLoads$Broken" ⟨"ObjectLoads$Node", "linkCount", "()I"⟩ ⟨"ObjectLoads$Point", "linkCount", "()I"⟩ ∈ ol_all := ol_in2 201 (by decide +kernel) rfl
theorem wd_442 : Cond.instanceMethod ⟨"ObjectLoads$Point", "linkCount", "()I"⟩ ∈ ol_all := ol_in2 202 (by decide +kernel) rfl
theorem wd_443 : Cond.code ⟨"ObjectLoads$Point", "linkCount", "()I"⟩ prog_9_method_3_code 1 (some FieldType.int) ∈ ol_all := ol_in2 203 (rfl) rfl
theorem wd_444 : Cond.selects "ObjectLoads$City" ⟨"ObjectLoads$Node", "linkCount", "()I"⟩ ⟨"ObjectLoads$City", "linkCount", "()I"⟩ ∈ ol_all := ol_in2 204 (by decide +kernel) rfl
theorem wd_445 : Cond.instanceMethod ⟨"ObjectLoads$City", "linkCount", "()I"⟩ ∈ ol_all := ol_in2 205 (by decide +kernel) rfl
theorem wd_446 : Cond.code ⟨"ObjectLoads$City", "linkCount", "()I"⟩ prog_4_method_3_code 1 (some FieldType.int) ∈ ol_all := ol_in2 206 (rfl) rfl
theorem wd_447 : Cond.selects "ObjectLoads$Empty" ⟨"ObjectLoads$Node", "linkCount", "()I"⟩ ⟨"ObjectLoads$Point", "linkCount", "()I"⟩ ∈ ol_all := ol_in2 207 (by decide +kernel) rfl
theorem wd_448 : Cond.selects "ObjectLoads$Masked" ⟨"ObjectLoads$Node", "linkCount", "()I"⟩ ⟨"ObjectLoads$City", "linkCount", "()I"⟩ ∈ ol_all := ol_in2 208 (by decide +kernel) rfl
theorem wd_449 : Cond.selects "ObjectLoads$Point" ⟨"ObjectLoads$Node", "linkCount", "()I"⟩ ⟨"ObjectLoads$Point", "linkCount", "()I"⟩ ∈ ol_all := ol_in2 209 (by decide +kernel) rfl
theorem wd_450 : Cond.selects "ObjectLoads$ShortCity" ⟨"ObjectLoads$Node", "linkCount", "()I"⟩ ⟨"ObjectLoads$ShortCity", "linkCount", "()I"⟩ ∈ ol_all := ol_in2 210 (by decide +kernel) rfl
theorem wd_451 : Cond.instanceMethod ⟨"ObjectLoads$ShortCity", "linkCount", "()I"⟩ ∈ ol_all := ol_in2 211 (by decide +kernel) rfl
theorem wd_452 : Cond.code ⟨"ObjectLoads$ShortCity", "linkCount", "()I"⟩ prog_10_method_4_code 1 (some FieldType.int) ∈ ol_all := ol_in2 212 (rfl) rfl
theorem wd_453 : Cond.methodLink "ObjectLoads" 233 ⟨"ObjectLoads$Node", "link", "(I)LObjectLoads$Thing;"⟩ ∈ ol_all := ol_in2 213 (by decide +kernel) rfl
theorem wd_455 : Cond.sameMethod "ObjectLoads$Node" "ObjectLoads$Node" "link" "(I)LObjectLoads$Thing;" ∈ ol_all := ol_in2 215 (by decide +kernel) rfl
theorem wd_456 : Cond.selects "ObjectLoads$Broken" ⟨"ObjectLoads$Node", "link", "(I)LObjectLoads$Thing;"⟩ ⟨"ObjectLoads$Point", "link", "(I)LObjectLoads$Thing;"⟩ ∈ ol_all := ol_in2 216 (by decide +kernel) rfl
theorem wd_457 : Cond.instanceMethod ⟨"ObjectLoads$Point", "link", "(I)LObjectLoads$Thing;"⟩ ∈ ol_all := ol_in2 217 (by decide +kernel) rfl
theorem wd_458 : Cond.code ⟨"ObjectLoads$Point", "link", "(I)LObjectLoads$Thing;"⟩ prog_9_method_4_code 2 (some (FieldType.object "ObjectLoads$Thing")) ∈ ol_all := ol_in2 218 (rfl) rfl
theorem wd_459 : Cond.selects "ObjectLoads$City" ⟨"ObjectLoads$Node", "link", "(I)LObjectLoads$Thing;"⟩ ⟨"ObjectLoads$City", "link", "(I)LObjectLoads$Thing;"⟩ ∈ ol_all := ol_in2 219 (by decide +kernel) rfl
theorem wd_460 : Cond.instanceMethod ⟨"ObjectLoads$City", "link", "(I)LObjectLoads$Thing;"⟩ ∈ ol_all := ol_in2 220 (by decide +kernel) rfl
theorem wd_461 : Cond.code ⟨"ObjectLoads$City", "link", "(I)LObjectLoads$Thing;"⟩ prog_4_method_4_code 2 (some (FieldType.object "ObjectLoads$Thing")) ∈ ol_all := ol_in2 221 (rfl) rfl
theorem wd_463 : Cond.selects "ObjectLoads$Empty" ⟨"ObjectLoads$Node", "link", "(I)LObjectLoads$Thing;"⟩ ⟨"ObjectLoads$Point", "link", "(I)LObjectLoads$Thing;"⟩ ∈ ol_all := ol_in2 223 (by decide +kernel) rfl
theorem wd_464 : Cond.selects "ObjectLoads$Masked" ⟨"ObjectLoads$Node", "link", "(I)LObjectLoads$Thing;"⟩ ⟨"ObjectLoads$City", "link", "(I)LObjectLoads$Thing;"⟩ ∈ ol_all := ol_in2 224 (by decide +kernel) rfl
theorem wd_465 : Cond.selects "ObjectLoads$Point" ⟨"ObjectLoads$Node", "link", "(I)LObjectLoads$Thing;"⟩ ⟨"ObjectLoads$Point", "link", "(I)LObjectLoads$Thing;"⟩ ∈ ol_all := ol_in2 225 (by decide +kernel) rfl
theorem wd_466 : Cond.selects "ObjectLoads$ShortCity" ⟨"ObjectLoads$Node", "link", "(I)LObjectLoads$Thing;"⟩ ⟨"ObjectLoads$ShortCity", "link", "(I)LObjectLoads$Thing;"⟩ ∈ ol_all := ol_in2 226 (by decide +kernel) rfl
theorem wd_467 : Cond.instanceMethod ⟨"ObjectLoads$ShortCity", "link", "(I)LObjectLoads$Thing;"⟩ ∈ ol_all := ol_in2 227 (by decide +kernel) rfl
theorem wd_468 : Cond.code ⟨"ObjectLoads$ShortCity", "link", "(I)LObjectLoads$Thing;"⟩ prog_10_method_5_code 2 (some (FieldType.object "ObjectLoads$Thing")) ∈ ol_all := ol_in2 228 (rfl) rfl
theorem wd_469 : Cond.methodLink "ObjectLoads$ShortCity" 19 ⟨"ObjectLoads$City", "link", "(I)LObjectLoads$Thing;"⟩ ∈ ol_all := ol_in2 229 (by decide +kernel) rfl
theorem wd_470 : Cond.methodLink "ObjectLoads" 236 ⟨"ObjectLoads", "follow", "(LObjectLoads$Node;LObjectLoads$Thing;)Z"⟩ ∈ ol_all := ol_in2 230 (by decide +kernel) rfl
theorem wd_472 : Cond.instanceMethod ⟨"ObjectLoads", "follow", "(LObjectLoads$Node;LObjectLoads$Thing;)Z"⟩ ∈ ol_all := ol_in2 232 (by decide +kernel) rfl
theorem wd_473 : Cond.code ⟨"ObjectLoads", "follow", "(LObjectLoads$Node;LObjectLoads$Thing;)Z"⟩ prog_1_method_39_code 4 (some FieldType.boolean) ∈ ol_all := ol_in2 233 (rfl) rfl
theorem wd_474 : Cond.methodLink "ObjectLoads" 244 ⟨"ObjectLoads", "cross", "(LObjectLoads$Node;LObjectLoads$Bridge;)Z"⟩ ∈ ol_all := ol_in2 234 (by decide +kernel) rfl
theorem wd_476 : Cond.instanceMethod ⟨"ObjectLoads", "cross", "(LObjectLoads$Node;LObjectLoads$Bridge;)Z"⟩ ∈ ol_all := ol_in2 236 (by decide +kernel) rfl
theorem wd_477 : Cond.code ⟨"ObjectLoads", "cross", "(LObjectLoads$Node;LObjectLoads$Bridge;)Z"⟩ prog_1_method_40_code 5 (some FieldType.boolean) ∈ ol_all := ol_in2 237 (rfl) rfl
theorem wd_478 : Cond.methodLink "ObjectLoads" 253 ⟨"ObjectLoads$Bridge", "otherEnd", "(LObjectLoads$Node;)LObjectLoads$Thing;"⟩ ∈ ol_all := ol_in2 238 (by decide +kernel) rfl
theorem wd_479 : Cond.instanceMethod ⟨"ObjectLoads$Bridge", "otherEnd", "(LObjectLoads$Node;)LObjectLoads$Thing;"⟩ ∈ ol_all := ol_in2 239 (by decide +kernel) rfl
theorem wd_480 : Cond.selects "ObjectLoads$Bridge" ⟨"ObjectLoads$Bridge", "otherEnd", "(LObjectLoads$Node;)LObjectLoads$Thing;"⟩ ⟨"ObjectLoads$Bridge", "otherEnd", "(LObjectLoads$Node;)LObjectLoads$Thing;"⟩ ∈ ol_all := ol_in3 0 (by decide +kernel) rfl
theorem wd_481 : Cond.code ⟨"ObjectLoads$Bridge", "otherEnd", "(LObjectLoads$Node;)LObjectLoads$Thing;"⟩ prog_2_method_3_code 2 (some (FieldType.object "ObjectLoads$Thing")) ∈ ol_all := ol_in3 1 (rfl) rfl
theorem wd_482 : Cond.methodLink "ObjectLoads" 257 ⟨"ObjectLoads$Bridge", "toldValue", "()I"⟩ ∈ ol_all := ol_in3 2 (by decide +kernel) rfl
theorem wd_483 : Cond.sameMethod "ObjectLoads$Bridge" "ObjectLoads$Thing" "toldValue" "()I" ∈ ol_all := ol_in3 3 (by decide +kernel) rfl
theorem wd_484 : Cond.selects "ObjectLoads$Bridge" ⟨"ObjectLoads$Bridge", "toldValue", "()I"⟩ ⟨"ObjectLoads$Thing", "toldValue", "()I"⟩ ∈ ol_all := ol_in3 4 (by decide +kernel) rfl
theorem wd_485 : Cond.methodLink "ObjectLoads" 248 ⟨"ObjectLoads$Graph", "addArc", "(LObjectLoads$Node;IZ)V"⟩ ∈ ol_all := ol_in3 5 (by decide +kernel) rfl
theorem wd_486 : Cond.instanceMethod ⟨"ObjectLoads$Graph", "addArc", "(LObjectLoads$Node;IZ)V"⟩ ∈ ol_all := ol_in3 6 (by decide +kernel) rfl
theorem wd_487 : Cond.selects "ObjectLoads$Graph" ⟨"ObjectLoads$Graph", "addArc", "(LObjectLoads$Node;IZ)V"⟩ ⟨"ObjectLoads$Graph", "addArc", "(LObjectLoads$Node;IZ)V"⟩ ∈ ol_all := ol_in3 7 (by decide +kernel) rfl
theorem wd_488 : Cond.code ⟨"ObjectLoads$Graph", "addArc", "(LObjectLoads$Node;IZ)V"⟩ prog_6_method_6_code 4 none ∈ ol_all := ol_in3 8 (rfl) rfl
theorem wd_489 : Cond.methodLink "ObjectLoads$Graph" 63 ⟨"ObjectLoads$Graph", "findNode", "(LObjectLoads$Node;)I"⟩ ∈ ol_all := ol_in3 9 (by decide +kernel) rfl
theorem wd_490 : Cond.methodLink "ObjectLoads" 240 ⟨"ObjectLoads$Graph", "endArcsOf", "(I)V"⟩ ∈ ol_all := ol_in3 10 (by decide +kernel) rfl
theorem wd_491 : Cond.instanceMethod ⟨"ObjectLoads$Graph", "endArcsOf", "(I)V"⟩ ∈ ol_all := ol_in3 11 (by decide +kernel) rfl
theorem wd_492 : Cond.selects "ObjectLoads$Graph" ⟨"ObjectLoads$Graph", "endArcsOf", "(I)V"⟩ ⟨"ObjectLoads$Graph", "endArcsOf", "(I)V"⟩ ∈ ol_all := ol_in3 12 (by decide +kernel) rfl
theorem wd_493 : Cond.code ⟨"ObjectLoads$Graph", "endArcsOf", "(I)V"⟩ prog_6_method_7_code 2 none ∈ ol_all := ol_in3 13 (rfl) rfl
theorem wd_494 : Cond.constant "ObjectLoads" 108 (-1000010) ∈ ol_all := ol_in3 14 (by decide +kernel) rfl
theorem wd_495 : Cond.methodLink "ObjectLoadsLaw" 49 ⟨"ObjectLoads", "refused", "(I)I"⟩ ∈ ol_all := ol_in3 15 (by decide +kernel) rfl
theorem wd_496 : Cond.instanceMethod ⟨"ObjectLoads", "refused", "(I)I"⟩ ∈ ol_all := ol_in3 16 (by decide +kernel) rfl
theorem wd_497 : Cond.selects "ObjectLoads" ⟨"ObjectLoads", "refused", "(I)I"⟩ ⟨"ObjectLoads", "refused", "(I)I"⟩ ∈ ol_all := ol_in3 17 (by decide +kernel) rfl
theorem wd_498 : Cond.code ⟨"ObjectLoads", "refused", "(I)I"⟩ prog_1_method_10_code 2 (some FieldType.int) ∈ ol_all := ol_in3 18 (rfl) rfl
theorem wd_499 : Cond.methodLink "ObjectLoadsLaw" 54 ⟨"ObjectLoads", "node", "(I)I"⟩ ∈ ol_all := ol_in3 19 (by decide +kernel) rfl
theorem wd_500 : Cond.instanceMethod ⟨"ObjectLoads", "node", "(I)I"⟩ ∈ ol_all := ol_in3 20 (by decide +kernel) rfl
theorem wd_501 : Cond.selects "ObjectLoads" ⟨"ObjectLoads", "node", "(I)I"⟩ ⟨"ObjectLoads", "node", "(I)I"⟩ ∈ ol_all := ol_in3 21 (by decide +kernel) rfl
theorem wd_502 : Cond.code ⟨"ObjectLoads", "node", "(I)I"⟩ prog_1_method_11_code 2 (some FieldType.int) ∈ ol_all := ol_in3 22 (rfl) rfl
theorem wd_503 : Cond.methodLink "ObjectLoadsLaw" 58 ⟨"ObjectLoads", "of", "(I)I"⟩ ∈ ol_all := ol_in3 23 (by decide +kernel) rfl
theorem wd_504 : Cond.instanceMethod ⟨"ObjectLoads", "of", "(I)I"⟩ ∈ ol_all := ol_in3 24 (by decide +kernel) rfl
theorem wd_505 : Cond.selects "ObjectLoads" ⟨"ObjectLoads", "of", "(I)I"⟩ ⟨"ObjectLoads", "of", "(I)I"⟩ ∈ ol_all := ol_in3 25 (by decide +kernel) rfl
theorem wd_506 : Cond.code ⟨"ObjectLoads", "of", "(I)I"⟩ prog_1_method_12_code 2 (some FieldType.int) ∈ ol_all := ol_in3 26 (rfl) rfl
theorem wd_507 : Cond.methodLink "ObjectLoads" 119 ⟨"ObjectLoads$Graph", "hasNode", "(I)Z"⟩ ∈ ol_all := ol_in3 27 (by decide +kernel) rfl
theorem wd_508 : Cond.instanceMethod ⟨"ObjectLoads$Graph", "hasNode", "(I)Z"⟩ ∈ ol_all := ol_in3 28 (by decide +kernel) rfl
theorem wd_509 : Cond.selects "ObjectLoads$Graph" ⟨"ObjectLoads$Graph", "hasNode", "(I)Z"⟩ ⟨"ObjectLoads$Graph", "hasNode", "(I)Z"⟩ ∈ ol_all := ol_in3 29 (by decide +kernel) rfl
theorem wd_510 : Cond.code ⟨"ObjectLoads$Graph", "hasNode", "(I)Z"⟩ prog_6_method_3_code 2 (some FieldType.boolean) ∈ ol_all := ol_in3 30 (rfl) rfl
theorem wd_511 : Cond.methodLink "ObjectLoadsLaw" 62 ⟨"ObjectLoads", "column", "(I)I"⟩ ∈ ol_all := ol_in3 31 (by decide +kernel) rfl
theorem wd_512 : Cond.instanceMethod ⟨"ObjectLoads", "column", "(I)I"⟩ ∈ ol_all := ol_in3 32 (by decide +kernel) rfl
theorem wd_513 : Cond.selects "ObjectLoads" ⟨"ObjectLoads", "column", "(I)I"⟩ ⟨"ObjectLoads", "column", "(I)I"⟩ ∈ ol_all := ol_in3 33 (by decide +kernel) rfl
theorem wd_514 : Cond.code ⟨"ObjectLoads", "column", "(I)I"⟩ prog_1_method_13_code 2 (some FieldType.int) ∈ ol_all := ol_in3 34 (rfl) rfl
theorem wd_515 : Cond.methodLink "ObjectLoadsLaw" 66 ⟨"ObjectLoads", "arcs", "(I)I"⟩ ∈ ol_all := ol_in3 35 (by decide +kernel) rfl
theorem wd_516 : Cond.instanceMethod ⟨"ObjectLoads", "arcs", "(I)I"⟩ ∈ ol_all := ol_in3 36 (by decide +kernel) rfl
theorem wd_517 : Cond.selects "ObjectLoads" ⟨"ObjectLoads", "arcs", "(I)I"⟩ ⟨"ObjectLoads", "arcs", "(I)I"⟩ ∈ ol_all := ol_in3 37 (by decide +kernel) rfl
theorem wd_518 : Cond.code ⟨"ObjectLoads", "arcs", "(I)I"⟩ prog_1_method_14_code 2 (some FieldType.int) ∈ ol_all := ol_in3 38 (rfl) rfl
theorem wd_519 : Cond.methodLink "ObjectLoads" 132 ⟨"ObjectLoads$Graph", "arcsOf", "(I)I"⟩ ∈ ol_all := ol_in3 39 (by decide +kernel) rfl
theorem wd_520 : Cond.instanceMethod ⟨"ObjectLoads$Graph", "arcsOf", "(I)I"⟩ ∈ ol_all := ol_in3 40 (by decide +kernel) rfl
theorem wd_521 : Cond.selects "ObjectLoads$Graph" ⟨"ObjectLoads$Graph", "arcsOf", "(I)I"⟩ ⟨"ObjectLoads$Graph", "arcsOf", "(I)I"⟩ ∈ ol_all := ol_in3 41 (by decide +kernel) rfl
theorem wd_522 : Cond.code ⟨"ObjectLoads$Graph", "arcsOf", "(I)I"⟩ prog_6_method_4_code 2 (some FieldType.int) ∈ ol_all := ol_in3 42 (rfl) rfl
theorem wd_523 : Cond.methodLink "ObjectLoadsLaw" 70 ⟨"ObjectLoads", "arc", "(III)I"⟩ ∈ ol_all := ol_in3 43 (by decide +kernel) rfl
theorem wd_524 : Cond.instanceMethod ⟨"ObjectLoads", "arc", "(III)I"⟩ ∈ ol_all := ol_in3 44 (by decide +kernel) rfl
theorem wd_525 : Cond.selects "ObjectLoads" ⟨"ObjectLoads", "arc", "(III)I"⟩ ⟨"ObjectLoads", "arc", "(III)I"⟩ ∈ ol_all := ol_in3 45 (by decide +kernel) rfl
theorem wd_526 : Cond.code ⟨"ObjectLoads", "arc", "(III)I"⟩ prog_1_method_15_code 5 (some FieldType.int) ∈ ol_all := ol_in3 46 (rfl) rfl
theorem wd_527 : Cond.methodLink "ObjectLoadsLaw" 74 ⟨"ObjectLoads", "way", "(II)I"⟩ ∈ ol_all := ol_in3 47 (by decide +kernel) rfl
theorem wd_528 : Cond.instanceMethod ⟨"ObjectLoads", "way", "(II)I"⟩ ∈ ol_all := ol_in3 48 (by decide +kernel) rfl
theorem wd_529 : Cond.selects "ObjectLoads" ⟨"ObjectLoads", "way", "(II)I"⟩ ⟨"ObjectLoads", "way", "(II)I"⟩ ∈ ol_all := ol_in3 49 (by decide +kernel) rfl
theorem wd_530 : Cond.code ⟨"ObjectLoads", "way", "(II)I"⟩ prog_1_method_16_code 3 (some FieldType.int) ∈ ol_all := ol_in3 50 (rfl) rfl
theorem wd_531 : Cond.methodLink "ObjectLoads" 149 ⟨"ObjectLoads$Graph", "shortestWay", "(II)I"⟩ ∈ ol_all := ol_in3 51 (by decide +kernel) rfl
theorem wd_532 : Cond.instanceMethod ⟨"ObjectLoads$Graph", "shortestWay", "(II)I"⟩ ∈ ol_all := ol_in3 52 (by decide +kernel) rfl
theorem wd_533 : Cond.selects "ObjectLoads$Graph" ⟨"ObjectLoads$Graph", "shortestWay", "(II)I"⟩ ⟨"ObjectLoads$Graph", "shortestWay", "(II)I"⟩ ∈ ol_all := ol_in3 53 (by decide +kernel) rfl
theorem wd_534 : Cond.code ⟨"ObjectLoads$Graph", "shortestWay", "(II)I"⟩ prog_6_method_8_code 8 (some FieldType.int) ∈ ol_all := ol_in3 54 (rfl) rfl
theorem wd_535 : Cond.methodLink "ObjectLoadsLaw" 78 ⟨"ObjectLoads", "holes", "()I"⟩ ∈ ol_all := ol_in3 55 (by decide +kernel) rfl
theorem wd_536 : Cond.instanceMethod ⟨"ObjectLoads", "holes", "()I"⟩ ∈ ol_all := ol_in3 56 (by decide +kernel) rfl
theorem wd_537 : Cond.selects "ObjectLoads" ⟨"ObjectLoads", "holes", "()I"⟩ ⟨"ObjectLoads", "holes", "()I"⟩ ∈ ol_all := ol_in3 57 (by decide +kernel) rfl
theorem wd_538 : Cond.code ⟨"ObjectLoads", "holes", "()I"⟩ prog_1_method_17_code 1 (some FieldType.int) ∈ ol_all := ol_in3 58 (rfl) rfl
theorem wd_539 : Cond.methodLink "ObjectLoadsLaw" 83 ⟨"ObjectLoads", "asked", "(I)I"⟩ ∈ ol_all := ol_in3 59 (by decide +kernel) rfl
theorem wd_540 : Cond.instanceMethod ⟨"ObjectLoads", "asked", "(I)I"⟩ ∈ ol_all := ol_in3 60 (by decide +kernel) rfl
theorem wd_541 : Cond.selects "ObjectLoads" ⟨"ObjectLoads", "asked", "(I)I"⟩ ⟨"ObjectLoads", "asked", "(I)I"⟩ ∈ ol_all := ol_in3 61 (by decide +kernel) rfl
theorem wd_542 : Cond.code ⟨"ObjectLoads", "asked", "(I)I"⟩ prog_1_method_18_code 3 (some FieldType.int) ∈ ol_all := ol_in3 62 (rfl) rfl
theorem wd_543 : Cond.methodLink "ObjectLoadsLaw" 87 ⟨"ObjectLoads", "tells", "(II)I"⟩ ∈ ol_all := ol_in3 63 (by decide +kernel) rfl
theorem wd_544 : Cond.instanceMethod ⟨"ObjectLoads", "tells", "(II)I"⟩ ∈ ol_all := ol_in3 64 (by decide +kernel) rfl
theorem wd_545 : Cond.selects "ObjectLoads" ⟨"ObjectLoads", "tells", "(II)I"⟩ ⟨"ObjectLoads", "tells", "(II)I"⟩ ∈ ol_all := ol_in3 65 (by decide +kernel) rfl
theorem wd_546 : Cond.code ⟨"ObjectLoads", "tells", "(II)I"⟩ prog_1_method_19_code 4 (some FieldType.int) ∈ ol_all := ol_in3 66 (rfl) rfl
theorem wd_547 : Cond.methodLink "ObjectLoads" 159 ⟨"ObjectLoads$Thing", "toldKey", "()I"⟩ ∈ ol_all := ol_in3 67 (by decide +kernel) rfl
theorem wd_548 : Cond.methodLink "ObjectLoads" 163 ⟨"ObjectLoads$Thing", "keyCause", "()I"⟩ ∈ ol_all := ol_in3 68 (by decide +kernel) rfl
theorem wd_549 : Cond.methodLink "ObjectLoads" 166 ⟨"ObjectLoads", "toldOrFailed", "(II)I"⟩ ∈ ol_all := ol_in3 69 (by decide +kernel) rfl
theorem wd_550 : Cond.static ⟨"ObjectLoads", "toldOrFailed", "(II)I"⟩ ∈ ol_all := ol_in3 70 (by decide +kernel) rfl
theorem wd_551 : Cond.code ⟨"ObjectLoads", "toldOrFailed", "(II)I"⟩ prog_1_method_30_code 2 (some FieldType.int) ∈ ol_all := ol_in3 71 (rfl) rfl
theorem wd_552 : Cond.methodLink "ObjectLoads" 169 ⟨"ObjectLoads$Thing", "toldValue", "()I"⟩ ∈ ol_all := ol_in3 72 (by decide +kernel) rfl
theorem wd_553 : Cond.methodLink "ObjectLoads" 172 ⟨"ObjectLoads$Thing", "valueCause", "()I"⟩ ∈ ol_all := ol_in3 73 (by decide +kernel) rfl
theorem wd_554 : Cond.methodLink "ObjectLoads" 175 ⟨"ObjectLoads$Thing", "linkCount", "()I"⟩ ∈ ol_all := ol_in3 74 (by decide +kernel) rfl
theorem wd_555 : Cond.instanceMethod ⟨"ObjectLoads$Bridge", "linkCount", "()I"⟩ ∈ ol_all := ol_in3 75 (by decide +kernel) rfl
theorem wd_556 : Cond.code ⟨"ObjectLoads$Bridge", "linkCount", "()I"⟩ prog_2_method_2_code 1 (some FieldType.int) ∈ ol_all := ol_in3 76 (rfl) rfl
theorem wd_557 : Cond.methodLink "ObjectLoads" 178 ⟨"ObjectLoads$Thing", "linksCause", "()I"⟩ ∈ ol_all := ol_in3 77 (by decide +kernel) rfl
theorem wd_558 : Cond.methodLink "ObjectLoadsLaw" 91 ⟨"ObjectLoads", "is", "(II)I"⟩ ∈ ol_all := ol_in3 78 (by decide +kernel) rfl
theorem wd_559 : Cond.instanceMethod ⟨"ObjectLoads", "is", "(II)I"⟩ ∈ ol_all := ol_in3 79 (by decide +kernel) rfl
theorem wd_560 : Cond.selects "ObjectLoads" ⟨"ObjectLoads", "is", "(II)I"⟩ ⟨"ObjectLoads", "is", "(II)I"⟩ ∈ ol_all := ol_in3 80 (by decide +kernel) rfl
theorem wd_561 : Cond.code ⟨"ObjectLoads", "is", "(II)I"⟩ prog_1_method_20_code 4 (some FieldType.int) ∈ ol_all := ol_in3 81 (rfl) rfl
theorem wd_562 : Cond.methodLink "ObjectLoadsLaw" 95 ⟨"ObjectLoads", "count", "(I)I"⟩ ∈ ol_all := ol_in3 82 (by decide +kernel) rfl
theorem wd_563 : Cond.instanceMethod ⟨"ObjectLoads", "count", "(I)I"⟩ ∈ ol_all := ol_in3 83 (by decide +kernel) rfl
theorem wd_564 : Cond.selects "ObjectLoads" ⟨"ObjectLoads", "count", "(I)I"⟩ ⟨"ObjectLoads", "count", "(I)I"⟩ ∈ ol_all := ol_in3 84 (by decide +kernel) rfl
theorem wd_565 : Cond.code ⟨"ObjectLoads", "count", "(I)I"⟩ prog_1_method_21_code 2 (some FieldType.int) ∈ ol_all := ol_in3 85 (rfl) rfl
theorem wd_566 : Cond.methodLink "ObjectLoadsLaw" 99 ⟨"ObjectLoads", "clear", "()I"⟩ ∈ ol_all := ol_in3 86 (by decide +kernel) rfl
theorem wd_567 : Cond.instanceMethod ⟨"ObjectLoads", "clear", "()I"⟩ ∈ ol_all := ol_in3 87 (by decide +kernel) rfl
theorem wd_568 : Cond.selects "ObjectLoads" ⟨"ObjectLoads", "clear", "()I"⟩ ⟨"ObjectLoads", "clear", "()I"⟩ ∈ ol_all := ol_in3 88 (by decide +kernel) rfl
theorem wd_569 : Cond.code ⟨"ObjectLoads", "clear", "()I"⟩ prog_1_method_22_code 2 (some FieldType.int) ∈ ol_all := ol_in3 89 (rfl) rfl
theorem wd_570 : Cond.classLink "ObjectLoadsLaw" 10 "ObjectLoadsModel" ∈ ol_all := ol_in3 90 (by decide +kernel) rfl
theorem wd_571 : Cond.instantiable "ObjectLoadsModel" 29 ∈ ol_all := ol_in3 91 (by decide +kernel) rfl
theorem wd_572 : Cond.methodLink "ObjectLoadsLaw" 12 ⟨"ObjectLoadsModel", "<init>", "()V"⟩ ∈ ol_all := ol_in3 92 (by decide +kernel) rfl
theorem wd_573 : Cond.instanceMethod ⟨"ObjectLoadsModel", "<init>", "()V"⟩ ∈ ol_all := ol_in3 93 (by decide +kernel) rfl
theorem wd_574 : Cond.code ⟨"ObjectLoadsModel", "<init>", "()V"⟩ prog_13_method_1_code 1 none ∈ ol_all := ol_in3 94 (rfl) rfl
theorem wd_575 : Cond.methodLink "ObjectLoadsModel" 1 ⟨"java/lang/Object", "<init>", "()V"⟩ ∈ ol_all := ol_in3 95 (by decide +kernel) rfl
theorem wd_576 : Cond.methodLink "ObjectLoadsModel" 74 ⟨"ObjectLoadsModel", "beginAll", "()V"⟩ ∈ ol_all := ol_in3 96 (by decide +kernel) rfl
theorem wd_578 : Cond.instanceMethod ⟨"ObjectLoadsModel", "beginAll", "()V"⟩ ∈ ol_all := ol_in3 98 (by decide +kernel) rfl
theorem wd_579 : Cond.code ⟨"ObjectLoadsModel", "beginAll", "()V"⟩ prog_13_method_35_code 1 none ∈ ol_all := ol_in3 99 (rfl) rfl
theorem wd_580 : Cond.fieldLink "ObjectLoadsModel" 77 "ObjectLoadsModel" "things" "I" ∈ ol_all := ol_in3 100 (by decide +kernel) rfl
theorem wd_581 : Cond.fieldLink "ObjectLoadsModel" 7 "ObjectLoadsModel" "sorts" "[I" ∈ ol_all := ol_in3 101 (by decide +kernel) rfl
theorem wd_582 : Cond.fieldLink "ObjectLoadsModel" 13 "ObjectLoadsModel" "keys" "[I" ∈ ol_all := ol_in3 102 (by decide +kernel) rfl
theorem wd_583 : Cond.fieldLink "ObjectLoadsModel" 16 "ObjectLoadsModel" "vs" "[I" ∈ ol_all := ol_in3 103 (by decide +kernel) rfl
theorem wd_584 : Cond.fieldLink "ObjectLoadsModel" 19 "ObjectLoadsModel" "nexts" "[I" ∈ ol_all := ol_in3 104 (by decide +kernel) rfl
theorem wd_585 : Cond.fieldLink "ObjectLoadsModel" 22 "ObjectLoadsModel" "places" "[I" ∈ ol_all := ol_in3 105 (by decide +kernel) rfl
theorem wd_586 : Cond.fieldLink "ObjectLoadsModel" 25 "ObjectLoadsModel" "isHeld" "[Z" ∈ ol_all := ol_in3 106 (by decide +kernel) rfl
theorem wd_587 : Cond.fieldLink "ObjectLoadsModel" 29 "ObjectLoadsModel" "askedOf" "[I" ∈ ol_all := ol_in3 107 (by decide +kernel) rfl
theorem wd_588 : Cond.fieldLink "ObjectLoadsModel" 32 "ObjectLoadsModel" "moved" "[I" ∈ ol_all := ol_in3 108 (by decide +kernel) rfl
theorem wd_589 : Cond.fieldLink "ObjectLoadsModel" 98 "ObjectLoadsModel" "told" "I" ∈ ol_all := ol_in3 109 (by decide +kernel) rfl
theorem wd_590 : Cond.fieldLink "ObjectLoadsModel" 35 "ObjectLoadsModel" "links" "[I" ∈ ol_all := ol_in3 110 (by decide +kernel) rfl
theorem wd_591 : Cond.fieldLink "ObjectLoadsModel" 101 "ObjectLoadsModel" "linkMany" "I" ∈ ol_all := ol_in3 111 (by decide +kernel) rfl
theorem wd_592 : Cond.fieldLink "ObjectLoadsModel" 142 "ObjectLoadsModel" "now" "I" ∈ ol_all := ol_in3 112 (by decide +kernel) rfl
theorem wd_593 : Cond.fieldLink "ObjectLoadsModel" 38 "ObjectLoadsModel" "nodes" "[I" ∈ ol_all := ol_in3 113 (by decide +kernel) rfl
theorem wd_594 : Cond.fieldLink "ObjectLoadsModel" 41 "ObjectLoadsModel" "thingOf" "[I" ∈ ol_all := ol_in3 114 (by decide +kernel) rfl
theorem wd_595 : Cond.fieldLink "ObjectLoadsModel" 44 "ObjectLoadsModel" "nodeOf" "[I" ∈ ol_all := ol_in3 115 (by decide +kernel) rfl
theorem wd_596 : Cond.fieldLink "ObjectLoadsModel" 47 "ObjectLoadsModel" "columns" "[I" ∈ ol_all := ol_in3 116 (by decide +kernel) rfl
theorem wd_597 : Cond.fieldLink "ObjectLoadsModel" 50 "ObjectLoadsModel" "firstArc" "[I" ∈ ol_all := ol_in3 117 (by decide +kernel) rfl
theorem wd_598 : Cond.fieldLink "ObjectLoadsModel" 53 "ObjectLoadsModel" "arcsIn" "[I" ∈ ol_all := ol_in3 118 (by decide +kernel) rfl
theorem wd_599 : Cond.fieldLink "ObjectLoadsModel" 56 "ObjectLoadsModel" "arcTo" "[I" ∈ ol_all := ol_in3 119 (by decide +kernel) rfl
theorem wd_600 : Cond.fieldLink "ObjectLoadsModel" 59 "ObjectLoadsModel" "arcWeight" "[I" ∈ ol_all := ol_in3 120 (by decide +kernel) rfl
theorem wd_601 : Cond.fieldLink "ObjectLoadsModel" 62 "ObjectLoadsModel" "arcBridge" "[Z" ∈ ol_all := ol_in3 121 (by decide +kernel) rfl
theorem wd_602 : Cond.fieldLink "ObjectLoadsModel" 65 "ObjectLoadsModel" "holeMany" "[I" ∈ ol_all := ol_in3 122 (by decide +kernel) rfl
theorem wd_603 : Cond.fieldLink "ObjectLoadsModel" 113 "ObjectLoadsModel" "failed" "I" ∈ ol_all := ol_in3 123 (by decide +kernel) rfl
theorem wd_604 : Cond.fieldLink "ObjectLoadsModel" 104 "ObjectLoadsModel" "refusedThing" "I" ∈ ol_all := ol_in3 124 (by decide +kernel) rfl
theorem wd_605 : Cond.fieldLink "ObjectLoadsModel" 107 "ObjectLoadsModel" "refusedOther" "I" ∈ ol_all := ol_in3 125 (by decide +kernel) rfl
theorem wd_606 : Cond.fieldLink "ObjectLoadsModel" 110 "ObjectLoadsModel" "refusedCause" "I" ∈ ol_all := ol_in3 126 (by decide +kernel) rfl
theorem wd_607 : Cond.fieldLink "ObjectLoadsModel" 68 "ObjectLoadsModel" "keyOf" "[I" ∈ ol_all := ol_in3 127 (by decide +kernel) rfl
theorem wd_608 : Cond.fieldLink "ObjectLoadsModel" 71 "ObjectLoadsModel" "far" "[I" ∈ ol_all := ol_in3 128 (by decide +kernel) rfl
theorem wd_667 : Cond.superclass "ObjectLoadsModel" "java/lang/Object" ∈ ol_all := ol_in3 187 (by decide +kernel) rfl
theorem wd_668 : Cond.methodLink "ObjectLoadsLaw" 17 ⟨"ObjectLoadsModel", "thing", "(III)I"⟩ ∈ ol_all := ol_in3 188 (by decide +kernel) rfl
theorem wd_669 : Cond.instanceMethod ⟨"ObjectLoadsModel", "thing", "(III)I"⟩ ∈ ol_all := ol_in3 189 (by decide +kernel) rfl
theorem wd_670 : Cond.selects "ObjectLoadsModel" ⟨"ObjectLoadsModel", "thing", "(III)I"⟩ ⟨"ObjectLoadsModel", "thing", "(III)I"⟩ ∈ ol_all := ol_in3 190 (by decide +kernel) rfl
theorem wd_671 : Cond.code ⟨"ObjectLoadsModel", "thing", "(III)I"⟩ prog_13_method_5_code 6 (some FieldType.int) ∈ ol_all := ol_in3 191 (rfl) rfl
theorem wd_672 : Cond.methodLink "ObjectLoadsModel" 81 ⟨"ObjectLoadsModel", "in", "(III)Z"⟩ ∈ ol_all := ol_in3 192 (by decide +kernel) rfl
theorem wd_673 : Cond.static ⟨"ObjectLoadsModel", "in", "(III)Z"⟩ ∈ ol_all := ol_in3 193 (by decide +kernel) rfl
theorem wd_674 : Cond.code ⟨"ObjectLoadsModel", "in", "(III)Z"⟩ prog_13_method_3_code 3 (some FieldType.boolean) ∈ ol_all := ol_in3 194 (rfl) rfl
theorem wd_675 : Cond.constant "ObjectLoadsModel" 85 (-1000002) ∈ ol_all := ol_in3 195 (by decide +kernel) rfl
theorem wd_676 : Cond.constant "ObjectLoadsModel" 86 (-1000004) ∈ ol_all := ol_in3 196 (by decide +kernel) rfl
theorem wd_677 : Cond.constant "ObjectLoadsModel" 87 (-1000009) ∈ ol_all := ol_in3 197 (by decide +kernel) rfl
theorem wd_678 : Cond.methodLink "ObjectLoadsLaw" 22 ⟨"ObjectLoadsModel", "value", "(II)I"⟩ ∈ ol_all := ol_in3 198 (by decide +kernel) rfl
theorem wd_679 : Cond.instanceMethod ⟨"ObjectLoadsModel", "value", "(II)I"⟩ ∈ ol_all := ol_in3 199 (by decide +kernel) rfl
theorem wd_680 : Cond.selects "ObjectLoadsModel" ⟨"ObjectLoadsModel", "value", "(II)I"⟩ ⟨"ObjectLoadsModel", "value", "(II)I"⟩ ∈ ol_all := ol_in3 200 (by decide +kernel) rfl
theorem wd_681 : Cond.code ⟨"ObjectLoadsModel", "value", "(II)I"⟩ prog_13_method_6_code 4 (some FieldType.int) ∈ ol_all := ol_in3 201 (rfl) rfl
theorem wd_682 : Cond.methodLink "ObjectLoadsModel" 88 ⟨"ObjectLoadsModel", "isThing", "(I)Z"⟩ ∈ ol_all := ol_in3 202 (by decide +kernel) rfl
theorem wd_684 : Cond.instanceMethod ⟨"ObjectLoadsModel", "isThing", "(I)Z"⟩ ∈ ol_all := ol_in3 204 (by decide +kernel) rfl
theorem wd_685 : Cond.code ⟨"ObjectLoadsModel", "isThing", "(I)Z"⟩ prog_13_method_4_code 2 (some FieldType.boolean) ∈ ol_all := ol_in3 205 (rfl) rfl
theorem wd_686 : Cond.constant "ObjectLoadsModel" 92 (-1000001) ∈ ol_all := ol_in3 206 (by decide +kernel) rfl
theorem wd_687 : Cond.methodLink "ObjectLoadsLaw" 26 ⟨"ObjectLoadsModel", "key", "(II)I"⟩ ∈ ol_all := ol_in3 207 (by decide +kernel) rfl
theorem wd_688 : Cond.instanceMethod ⟨"ObjectLoadsModel", "key", "(II)I"⟩ ∈ ol_all := ol_in3 208 (by decide +kernel) rfl
theorem wd_689 : Cond.selects "ObjectLoadsModel" ⟨"ObjectLoadsModel", "key", "(II)I"⟩ ⟨"ObjectLoadsModel", "key", "(II)I"⟩ ∈ ol_all := ol_in3 209 (by decide +kernel) rfl
theorem wd_690 : Cond.code ⟨"ObjectLoadsModel", "key", "(II)I"⟩ prog_13_method_7_code 4 (some FieldType.int) ∈ ol_all := ol_in3 210 (rfl) rfl
theorem wd_691 : Cond.methodLink "ObjectLoadsLaw" 30 ⟨"ObjectLoadsModel", "next", "(II)I"⟩ ∈ ol_all := ol_in3 211 (by decide +kernel) rfl
theorem wd_692 : Cond.instanceMethod ⟨"ObjectLoadsModel", "next", "(II)I"⟩ ∈ ol_all := ol_in3 212 (by decide +kernel) rfl
theorem wd_693 : Cond.selects "ObjectLoadsModel" ⟨"ObjectLoadsModel", "next", "(II)I"⟩ ⟨"ObjectLoadsModel", "next", "(II)I"⟩ ∈ ol_all := ol_in3 213 (by decide +kernel) rfl
theorem wd_694 : Cond.code ⟨"ObjectLoadsModel", "next", "(II)I"⟩ prog_13_method_8_code 3 (some FieldType.int) ∈ ol_all := ol_in3 214 (rfl) rfl
theorem wd_695 : Cond.methodLink "ObjectLoadsLaw" 34 ⟨"ObjectLoadsModel", "place", "(III)I"⟩ ∈ ol_all := ol_in3 215 (by decide +kernel) rfl
theorem wd_696 : Cond.instanceMethod ⟨"ObjectLoadsModel", "place", "(III)I"⟩ ∈ ol_all := ol_in3 216 (by decide +kernel) rfl
theorem wd_697 : Cond.selects "ObjectLoadsModel" ⟨"ObjectLoadsModel", "place", "(III)I"⟩ ⟨"ObjectLoadsModel", "place", "(III)I"⟩ ∈ ol_all := ol_in3 217 (by decide +kernel) rfl
theorem wd_698 : Cond.code ⟨"ObjectLoadsModel", "place", "(III)I"⟩ prog_13_method_9_code 4 (some FieldType.int) ∈ ol_all := ol_in3 218 (rfl) rfl
theorem wd_699 : Cond.methodLink "ObjectLoadsLaw" 39 ⟨"ObjectLoadsModel", "hold", "(IZ)I"⟩ ∈ ol_all := ol_in3 219 (by decide +kernel) rfl
theorem wd_700 : Cond.instanceMethod ⟨"ObjectLoadsModel", "hold", "(IZ)I"⟩ ∈ ol_all := ol_in3 220 (by decide +kernel) rfl
theorem wd_701 : Cond.selects "ObjectLoadsModel" ⟨"ObjectLoadsModel", "hold", "(IZ)I"⟩ ⟨"ObjectLoadsModel", "hold", "(IZ)I"⟩ ∈ ol_all := ol_in3 221 (by decide +kernel) rfl
theorem wd_702 : Cond.code ⟨"ObjectLoadsModel", "hold", "(IZ)I"⟩ prog_13_method_10_code 4 (some FieldType.int) ∈ ol_all := ol_in3 222 (rfl) rfl
theorem wd_703 : Cond.methodLink "ObjectLoadsLaw" 44 ⟨"ObjectLoadsModel", "copy", "(IIIII)I"⟩ ∈ ol_all := ol_in3 223 (by decide +kernel) rfl
theorem wd_704 : Cond.instanceMethod ⟨"ObjectLoadsModel", "copy", "(IIIII)I"⟩ ∈ ol_all := ol_in3 224 (by decide +kernel) rfl
theorem wd_705 : Cond.selects "ObjectLoadsModel" ⟨"ObjectLoadsModel", "copy", "(IIIII)I"⟩ ⟨"ObjectLoadsModel", "copy", "(IIIII)I"⟩ ∈ ol_all := ol_in3 225 (by decide +kernel) rfl
theorem wd_706 : Cond.code ⟨"ObjectLoadsModel", "copy", "(IIIII)I"⟩ prog_13_method_12_code 7 (some FieldType.int) ∈ ol_all := ol_in3 226 (rfl) rfl
theorem wd_707 : Cond.constant "ObjectLoadsModel" 93 (-1000012) ∈ ol_all := ol_in3 227 (by decide +kernel) rfl
theorem wd_708 : Cond.methodLink "ObjectLoadsModel" 94 ⟨"ObjectLoadsModel", "isBridge", "(I)Z"⟩ ∈ ol_all := ol_in3 228 (by decide +kernel) rfl
theorem wd_710 : Cond.instanceMethod ⟨"ObjectLoadsModel", "isBridge", "(I)Z"⟩ ∈ ol_all := ol_in3 230 (by decide +kernel) rfl
theorem wd_711 : Cond.code ⟨"ObjectLoadsModel", "isBridge", "(I)Z"⟩ prog_13_method_11_code 2 (some FieldType.boolean) ∈ ol_all := ol_in3 231 (rfl) rfl
theorem wd_712 : Cond.constant "ObjectLoadsModel" 97 (-1000015) ∈ ol_all := ol_in3 232 (by decide +kernel) rfl
theorem wd_713 : Cond.methodLink "ObjectLoadsLaw" 48 ⟨"ObjectLoadsModel", "load", "(IZ)I"⟩ ∈ ol_all := ol_in3 233 (by decide +kernel) rfl
theorem wd_714 : Cond.instanceMethod ⟨"ObjectLoadsModel", "load", "(IZ)I"⟩ ∈ ol_all := ol_in3 234 (by decide +kernel) rfl
theorem wd_715 : Cond.selects "ObjectLoadsModel" ⟨"ObjectLoadsModel", "load", "(IZ)I"⟩ ⟨"ObjectLoadsModel", "load", "(IZ)I"⟩ ∈ ol_all := ol_in3 235 (by decide +kernel) rfl
theorem wd_716 : Cond.code ⟨"ObjectLoadsModel", "load", "(IZ)I"⟩ prog_13_method_21_code 6 (some FieldType.int) ∈ ol_all := ol_in3 236 (rfl) rfl
theorem wd_717 : Cond.constant "ObjectLoadsModel" 141 (-1000003) ∈ ol_all := ol_in3 237 (by decide +kernel) rfl
theorem wd_718 : Cond.methodLink "ObjectLoadsModel" 138 ⟨"ObjectLoadsModel", "found", "(II)I"⟩ ∈ ol_all := ol_in3 238 (by decide +kernel) rfl
theorem wd_720 : Cond.instanceMethod ⟨"ObjectLoadsModel", "found", "(II)I"⟩ ∈ ol_all := ol_in4 0 (by decide +kernel) rfl
theorem wd_721 : Cond.code ⟨"ObjectLoadsModel", "found", "(II)I"⟩ prog_13_method_18_code 3 (some FieldType.int) ∈ ol_all := ol_in4 1 (rfl) rfl
theorem wd_722 : Cond.methodLink "ObjectLoadsModel" 145 ⟨"ObjectLoadsModel", "ask", "(IIZ)I"⟩ ∈ ol_all := ol_in4 2 (by decide +kernel) rfl
theorem wd_724 : Cond.instanceMethod ⟨"ObjectLoadsModel", "ask", "(IIZ)I"⟩ ∈ ol_all := ol_in4 4 (by decide +kernel) rfl
theorem wd_725 : Cond.code ⟨"ObjectLoadsModel", "ask", "(IIZ)I"⟩ prog_13_method_19_code 7 (some FieldType.int) ∈ ol_all := ol_in4 5 (rfl) rfl
theorem wd_726 : Cond.methodLink "ObjectLoadsModel" 117 ⟨"ObjectLoadsModel", "tellKey", "(I)I"⟩ ∈ ol_all := ol_in4 6 (by decide +kernel) rfl
theorem wd_728 : Cond.instanceMethod ⟨"ObjectLoadsModel", "tellKey", "(I)I"⟩ ∈ ol_all := ol_in4 8 (by decide +kernel) rfl
theorem wd_729 : Cond.code ⟨"ObjectLoadsModel", "tellKey", "(I)I"⟩ prog_13_method_13_code 2 (some FieldType.int) ∈ ol_all := ol_in4 9 (rfl) rfl
theorem wd_730 : Cond.methodLink "ObjectLoadsModel" 121 ⟨"ObjectLoadsModel", "refuse", "(III)I"⟩ ∈ ol_all := ol_in4 10 (by decide +kernel) rfl
theorem wd_732 : Cond.instanceMethod ⟨"ObjectLoadsModel", "refuse", "(III)I"⟩ ∈ ol_all := ol_in4 12 (by decide +kernel) rfl
theorem wd_733 : Cond.code ⟨"ObjectLoadsModel", "refuse", "(III)I"⟩ prog_13_method_17_code 4 (some FieldType.int) ∈ ol_all := ol_in4 13 (rfl) rfl
theorem wd_734 : Cond.constant "ObjectLoadsModel" 116 (-1000010) ∈ ol_all := ol_in4 14 (by decide +kernel) rfl
theorem wd_735 : Cond.methodLink "ObjectLoadsModel" 125 ⟨"ObjectLoadsModel", "tellValue", "(I)I"⟩ ∈ ol_all := ol_in4 15 (by decide +kernel) rfl
theorem wd_737 : Cond.instanceMethod ⟨"ObjectLoadsModel", "tellValue", "(I)I"⟩ ∈ ol_all := ol_in4 17 (by decide +kernel) rfl
theorem wd_738 : Cond.code ⟨"ObjectLoadsModel", "tellValue", "(I)I"⟩ prog_13_method_14_code 3 (some FieldType.int) ∈ ol_all := ol_in4 18 (rfl) rfl
theorem wd_739 : Cond.methodLink "ObjectLoadsModel" 128 ⟨"ObjectLoadsModel", "tellLinks", "(I)I"⟩ ∈ ol_all := ol_in4 19 (by decide +kernel) rfl
theorem wd_741 : Cond.instanceMethod ⟨"ObjectLoadsModel", "tellLinks", "(I)I"⟩ ∈ ol_all := ol_in4 21 (by decide +kernel) rfl
theorem wd_742 : Cond.code ⟨"ObjectLoadsModel", "tellLinks", "(I)I"⟩ prog_13_method_15_code 5 (some FieldType.int) ∈ ol_all := ol_in4 22 (rfl) rfl
theorem wd_743 : Cond.methodLink "ObjectLoadsModel" 131 ⟨"ObjectLoadsModel", "arcsOf", "(II)I"⟩ ∈ ol_all := ol_in4 23 (by decide +kernel) rfl
theorem wd_745 : Cond.instanceMethod ⟨"ObjectLoadsModel", "arcsOf", "(II)I"⟩ ∈ ol_all := ol_in4 25 (by decide +kernel) rfl
theorem wd_746 : Cond.code ⟨"ObjectLoadsModel", "arcsOf", "(II)I"⟩ prog_13_method_20_code 8 (some FieldType.int) ∈ ol_all := ol_in4 26 (rfl) rfl
theorem wd_747 : Cond.methodLink "ObjectLoadsModel" 135 ⟨"ObjectLoadsModel", "tellEnd", "(II)I"⟩ ∈ ol_all := ol_in4 27 (by decide +kernel) rfl
theorem wd_749 : Cond.instanceMethod ⟨"ObjectLoadsModel", "tellEnd", "(II)I"⟩ ∈ ol_all := ol_in4 29 (by decide +kernel) rfl
theorem wd_750 : Cond.code ⟨"ObjectLoadsModel", "tellEnd", "(II)I"⟩ prog_13_method_16_code 3 (some FieldType.int) ∈ ol_all := ol_in4 30 (rfl) rfl
theorem wd_751 : Cond.methodLink "ObjectLoadsLaw" 53 ⟨"ObjectLoadsModel", "refused", "(I)I"⟩ ∈ ol_all := ol_in4 31 (by decide +kernel) rfl
theorem wd_752 : Cond.instanceMethod ⟨"ObjectLoadsModel", "refused", "(I)I"⟩ ∈ ol_all := ol_in4 32 (by decide +kernel) rfl
theorem wd_753 : Cond.selects "ObjectLoadsModel" ⟨"ObjectLoadsModel", "refused", "(I)I"⟩ ⟨"ObjectLoadsModel", "refused", "(I)I"⟩ ∈ ol_all := ol_in4 33 (by decide +kernel) rfl
theorem wd_754 : Cond.code ⟨"ObjectLoadsModel", "refused", "(I)I"⟩ prog_13_method_22_code 2 (some FieldType.int) ∈ ol_all := ol_in4 34 (rfl) rfl
theorem wd_755 : Cond.methodLink "ObjectLoadsLaw" 57 ⟨"ObjectLoadsModel", "node", "(I)I"⟩ ∈ ol_all := ol_in4 35 (by decide +kernel) rfl
theorem wd_756 : Cond.instanceMethod ⟨"ObjectLoadsModel", "node", "(I)I"⟩ ∈ ol_all := ol_in4 36 (by decide +kernel) rfl
theorem wd_757 : Cond.selects "ObjectLoadsModel" ⟨"ObjectLoadsModel", "node", "(I)I"⟩ ⟨"ObjectLoadsModel", "node", "(I)I"⟩ ∈ ol_all := ol_in4 37 (by decide +kernel) rfl
theorem wd_758 : Cond.code ⟨"ObjectLoadsModel", "node", "(I)I"⟩ prog_13_method_23_code 2 (some FieldType.int) ∈ ol_all := ol_in4 38 (rfl) rfl
theorem wd_759 : Cond.methodLink "ObjectLoadsLaw" 61 ⟨"ObjectLoadsModel", "of", "(I)I"⟩ ∈ ol_all := ol_in4 39 (by decide +kernel) rfl
theorem wd_760 : Cond.instanceMethod ⟨"ObjectLoadsModel", "of", "(I)I"⟩ ∈ ol_all := ol_in4 40 (by decide +kernel) rfl
theorem wd_761 : Cond.selects "ObjectLoadsModel" ⟨"ObjectLoadsModel", "of", "(I)I"⟩ ⟨"ObjectLoadsModel", "of", "(I)I"⟩ ∈ ol_all := ol_in4 41 (by decide +kernel) rfl
theorem wd_762 : Cond.code ⟨"ObjectLoadsModel", "of", "(I)I"⟩ prog_13_method_25_code 2 (some FieldType.int) ∈ ol_all := ol_in4 42 (rfl) rfl
theorem wd_763 : Cond.methodLink "ObjectLoadsModel" 149 ⟨"ObjectLoadsModel", "isNode", "(I)Z"⟩ ∈ ol_all := ol_in4 43 (by decide +kernel) rfl
theorem wd_765 : Cond.instanceMethod ⟨"ObjectLoadsModel", "isNode", "(I)Z"⟩ ∈ ol_all := ol_in4 45 (by decide +kernel) rfl
theorem wd_766 : Cond.code ⟨"ObjectLoadsModel", "isNode", "(I)Z"⟩ prog_13_method_24_code 2 (some FieldType.boolean) ∈ ol_all := ol_in4 46 (rfl) rfl
theorem wd_767 : Cond.methodLink "ObjectLoadsLaw" 65 ⟨"ObjectLoadsModel", "column", "(I)I"⟩ ∈ ol_all := ol_in4 47 (by decide +kernel) rfl
theorem wd_768 : Cond.instanceMethod ⟨"ObjectLoadsModel", "column", "(I)I"⟩ ∈ ol_all := ol_in4 48 (by decide +kernel) rfl
theorem wd_769 : Cond.selects "ObjectLoadsModel" ⟨"ObjectLoadsModel", "column", "(I)I"⟩ ⟨"ObjectLoadsModel", "column", "(I)I"⟩ ∈ ol_all := ol_in4 49 (by decide +kernel) rfl
theorem wd_770 : Cond.code ⟨"ObjectLoadsModel", "column", "(I)I"⟩ prog_13_method_26_code 2 (some FieldType.int) ∈ ol_all := ol_in4 50 (rfl) rfl
theorem wd_771 : Cond.methodLink "ObjectLoadsLaw" 69 ⟨"ObjectLoadsModel", "arcs", "(I)I"⟩ ∈ ol_all := ol_in4 51 (by decide +kernel) rfl
theorem wd_772 : Cond.instanceMethod ⟨"ObjectLoadsModel", "arcs", "(I)I"⟩ ∈ ol_all := ol_in4 52 (by decide +kernel) rfl
theorem wd_773 : Cond.selects "ObjectLoadsModel" ⟨"ObjectLoadsModel", "arcs", "(I)I"⟩ ⟨"ObjectLoadsModel", "arcs", "(I)I"⟩ ∈ ol_all := ol_in4 53 (by decide +kernel) rfl
theorem wd_774 : Cond.code ⟨"ObjectLoadsModel", "arcs", "(I)I"⟩ prog_13_method_27_code 2 (some FieldType.int) ∈ ol_all := ol_in4 54 (rfl) rfl
theorem wd_775 : Cond.methodLink "ObjectLoadsLaw" 73 ⟨"ObjectLoadsModel", "arc", "(III)I"⟩ ∈ ol_all := ol_in4 55 (by decide +kernel) rfl
theorem wd_776 : Cond.instanceMethod ⟨"ObjectLoadsModel", "arc", "(III)I"⟩ ∈ ol_all := ol_in4 56 (by decide +kernel) rfl
theorem wd_777 : Cond.selects "ObjectLoadsModel" ⟨"ObjectLoadsModel", "arc", "(III)I"⟩ ⟨"ObjectLoadsModel", "arc", "(III)I"⟩ ∈ ol_all := ol_in4 57 (by decide +kernel) rfl
theorem wd_778 : Cond.code ⟨"ObjectLoadsModel", "arc", "(III)I"⟩ prog_13_method_28_code 5 (some FieldType.int) ∈ ol_all := ol_in4 58 (rfl) rfl
theorem wd_779 : Cond.methodLink "ObjectLoadsModel" 152 ⟨"ObjectLoadsModel", "arcs", "(I)I"⟩ ∈ ol_all := ol_in4 59 (by decide +kernel) rfl
theorem wd_780 : Cond.methodLink "ObjectLoadsLaw" 77 ⟨"ObjectLoadsModel", "way", "(II)I"⟩ ∈ ol_all := ol_in4 60 (by decide +kernel) rfl
theorem wd_781 : Cond.instanceMethod ⟨"ObjectLoadsModel", "way", "(II)I"⟩ ∈ ol_all := ol_in4 61 (by decide +kernel) rfl
theorem wd_782 : Cond.selects "ObjectLoadsModel" ⟨"ObjectLoadsModel", "way", "(II)I"⟩ ⟨"ObjectLoadsModel", "way", "(II)I"⟩ ∈ ol_all := ol_in4 62 (by decide +kernel) rfl
theorem wd_783 : Cond.code ⟨"ObjectLoadsModel", "way", "(II)I"⟩ prog_13_method_29_code 7 (some FieldType.int) ∈ ol_all := ol_in4 63 (rfl) rfl
theorem wd_784 : Cond.methodLink "ObjectLoadsLaw" 82 ⟨"ObjectLoadsModel", "holes", "()I"⟩ ∈ ol_all := ol_in4 64 (by decide +kernel) rfl
theorem wd_785 : Cond.instanceMethod ⟨"ObjectLoadsModel", "holes", "()I"⟩ ∈ ol_all := ol_in4 65 (by decide +kernel) rfl
theorem wd_786 : Cond.selects "ObjectLoadsModel" ⟨"ObjectLoadsModel", "holes", "()I"⟩ ⟨"ObjectLoadsModel", "holes", "()I"⟩ ∈ ol_all := ol_in4 66 (by decide +kernel) rfl
theorem wd_787 : Cond.code ⟨"ObjectLoadsModel", "holes", "()I"⟩ prog_13_method_30_code 1 (some FieldType.int) ∈ ol_all := ol_in4 67 (rfl) rfl
theorem wd_788 : Cond.methodLink "ObjectLoadsLaw" 86 ⟨"ObjectLoadsModel", "asked", "(I)I"⟩ ∈ ol_all := ol_in4 68 (by decide +kernel) rfl
theorem wd_789 : Cond.instanceMethod ⟨"ObjectLoadsModel", "asked", "(I)I"⟩ ∈ ol_all := ol_in4 69 (by decide +kernel) rfl
theorem wd_790 : Cond.selects "ObjectLoadsModel" ⟨"ObjectLoadsModel", "asked", "(I)I"⟩ ⟨"ObjectLoadsModel", "asked", "(I)I"⟩ ∈ ol_all := ol_in4 70 (by decide +kernel) rfl
theorem wd_791 : Cond.code ⟨"ObjectLoadsModel", "asked", "(I)I"⟩ prog_13_method_31_code 2 (some FieldType.int) ∈ ol_all := ol_in4 71 (rfl) rfl
theorem wd_792 : Cond.methodLink "ObjectLoadsLaw" 90 ⟨"ObjectLoadsModel", "tells", "(II)I"⟩ ∈ ol_all := ol_in4 72 (by decide +kernel) rfl
theorem wd_793 : Cond.instanceMethod ⟨"ObjectLoadsModel", "tells", "(II)I"⟩ ∈ ol_all := ol_in4 73 (by decide +kernel) rfl
theorem wd_794 : Cond.selects "ObjectLoadsModel" ⟨"ObjectLoadsModel", "tells", "(II)I"⟩ ⟨"ObjectLoadsModel", "tells", "(II)I"⟩ ∈ ol_all := ol_in4 74 (by decide +kernel) rfl
theorem wd_795 : Cond.code ⟨"ObjectLoadsModel", "tells", "(II)I"⟩ prog_13_method_32_code 4 (some FieldType.int) ∈ ol_all := ol_in4 75 (rfl) rfl
theorem wd_796 : Cond.methodLink "ObjectLoadsLaw" 94 ⟨"ObjectLoadsModel", "is", "(II)I"⟩ ∈ ol_all := ol_in4 76 (by decide +kernel) rfl
theorem wd_797 : Cond.instanceMethod ⟨"ObjectLoadsModel", "is", "(II)I"⟩ ∈ ol_all := ol_in4 77 (by decide +kernel) rfl
theorem wd_798 : Cond.selects "ObjectLoadsModel" ⟨"ObjectLoadsModel", "is", "(II)I"⟩ ⟨"ObjectLoadsModel", "is", "(II)I"⟩ ∈ ol_all := ol_in4 78 (by decide +kernel) rfl
theorem wd_799 : Cond.code ⟨"ObjectLoadsModel", "is", "(II)I"⟩ prog_13_method_33_code 5 (some FieldType.int) ∈ ol_all := ol_in4 79 (rfl) rfl
theorem wd_800 : Cond.methodLink "ObjectLoadsLaw" 98 ⟨"ObjectLoadsModel", "count", "(I)I"⟩ ∈ ol_all := ol_in4 80 (by decide +kernel) rfl
theorem wd_801 : Cond.instanceMethod ⟨"ObjectLoadsModel", "count", "(I)I"⟩ ∈ ol_all := ol_in4 81 (by decide +kernel) rfl
theorem wd_802 : Cond.selects "ObjectLoadsModel" ⟨"ObjectLoadsModel", "count", "(I)I"⟩ ⟨"ObjectLoadsModel", "count", "(I)I"⟩ ∈ ol_all := ol_in4 82 (by decide +kernel) rfl
theorem wd_803 : Cond.code ⟨"ObjectLoadsModel", "count", "(I)I"⟩ prog_13_method_34_code 2 (some FieldType.int) ∈ ol_all := ol_in4 83 (rfl) rfl
theorem wd_804 : Cond.methodLink "ObjectLoadsLaw" 102 ⟨"ObjectLoadsModel", "clear", "()I"⟩ ∈ ol_all := ol_in4 84 (by decide +kernel) rfl
theorem wd_805 : Cond.instanceMethod ⟨"ObjectLoadsModel", "clear", "()I"⟩ ∈ ol_all := ol_in4 85 (by decide +kernel) rfl
theorem wd_806 : Cond.selects "ObjectLoadsModel" ⟨"ObjectLoadsModel", "clear", "()I"⟩ ⟨"ObjectLoadsModel", "clear", "()I"⟩ ∈ ol_all := ol_in4 86 (by decide +kernel) rfl
theorem wd_807 : Cond.code ⟨"ObjectLoadsModel", "clear", "()I"⟩ prog_13_method_36_code 2 (some FieldType.int) ∈ ol_all := ol_in4 87 (rfl) rfl
theorem wd_808 : Cond.sameMethod "ObjectLoads$City" "ObjectLoads$City" "toldValue" "()I" ∈ ol_all := ol_in4 88 (by decide +kernel) rfl
theorem wd_809 : Cond.sameMethod "ObjectLoads$City" "ObjectLoads$City" "link" "(I)LObjectLoads$Thing;" ∈ ol_all := ol_in4 89 (by decide +kernel) rfl
theorem wd_810 : Cond.sameMethod "ObjectLoads$Thing" "ObjectLoads$Thing" "toldKey" "()I" ∈ ol_all := ol_in4 90 (by decide +kernel) rfl
theorem wd_811 : Cond.selects "ObjectLoads$Bridge" ⟨"ObjectLoads$Thing", "toldKey", "()I"⟩ ⟨"ObjectLoads$Thing", "toldKey", "()I"⟩ ∈ ol_all := ol_in4 91 (by decide +kernel) rfl
theorem wd_812 : Cond.selects "ObjectLoads$Broken" ⟨"ObjectLoads$Thing", "toldKey", "()I"⟩ ⟨"ObjectLoads$Thing", "toldKey", "()I"⟩ ∈ ol_all := ol_in4 92 (by decide +kernel) rfl
theorem wd_813 : Cond.selects "ObjectLoads$City" ⟨"ObjectLoads$Thing", "toldKey", "()I"⟩ ⟨"ObjectLoads$Thing", "toldKey", "()I"⟩ ∈ ol_all := ol_in4 93 (by decide +kernel) rfl
theorem wd_814 : Cond.selects "ObjectLoads$Empty" ⟨"ObjectLoads$Thing", "toldKey", "()I"⟩ ⟨"ObjectLoads$Thing", "toldKey", "()I"⟩ ∈ ol_all := ol_in4 94 (by decide +kernel) rfl
theorem wd_815 : Cond.selects "ObjectLoads$Masked" ⟨"ObjectLoads$Thing", "toldKey", "()I"⟩ ⟨"ObjectLoads$Thing", "toldKey", "()I"⟩ ∈ ol_all := ol_in4 95 (by decide +kernel) rfl
theorem wd_816 : Cond.selects "ObjectLoads$Point" ⟨"ObjectLoads$Thing", "toldKey", "()I"⟩ ⟨"ObjectLoads$Thing", "toldKey", "()I"⟩ ∈ ol_all := ol_in4 96 (by decide +kernel) rfl
theorem wd_817 : Cond.selects "ObjectLoads$ShortCity" ⟨"ObjectLoads$Thing", "toldKey", "()I"⟩ ⟨"ObjectLoads$Thing", "toldKey", "()I"⟩ ∈ ol_all := ol_in4 97 (by decide +kernel) rfl
theorem wd_818 : Cond.sameMethod "ObjectLoads$Thing" "ObjectLoads$Thing" "keyCause" "()I" ∈ ol_all := ol_in4 98 (by decide +kernel) rfl
theorem wd_819 : Cond.selects "ObjectLoads$Bridge" ⟨"ObjectLoads$Thing", "keyCause", "()I"⟩ ⟨"ObjectLoads$Thing", "keyCause", "()I"⟩ ∈ ol_all := ol_in4 99 (by decide +kernel) rfl
theorem wd_820 : Cond.selects "ObjectLoads$Broken" ⟨"ObjectLoads$Thing", "keyCause", "()I"⟩ ⟨"ObjectLoads$Thing", "keyCause", "()I"⟩ ∈ ol_all := ol_in4 100 (by decide +kernel) rfl
theorem wd_821 : Cond.selects "ObjectLoads$City" ⟨"ObjectLoads$Thing", "keyCause", "()I"⟩ ⟨"ObjectLoads$Thing", "keyCause", "()I"⟩ ∈ ol_all := ol_in4 101 (by decide +kernel) rfl
theorem wd_822 : Cond.selects "ObjectLoads$Empty" ⟨"ObjectLoads$Thing", "keyCause", "()I"⟩ ⟨"ObjectLoads$Empty", "keyCause", "()I"⟩ ∈ ol_all := ol_in4 102 (by decide +kernel) rfl
theorem wd_823 : Cond.selects "ObjectLoads$Masked" ⟨"ObjectLoads$Thing", "keyCause", "()I"⟩ ⟨"ObjectLoads$Thing", "keyCause", "()I"⟩ ∈ ol_all := ol_in4 103 (by decide +kernel) rfl
theorem wd_824 : Cond.selects "ObjectLoads$Point" ⟨"ObjectLoads$Thing", "keyCause", "()I"⟩ ⟨"ObjectLoads$Thing", "keyCause", "()I"⟩ ∈ ol_all := ol_in4 104 (by decide +kernel) rfl
theorem wd_825 : Cond.selects "ObjectLoads$ShortCity" ⟨"ObjectLoads$Thing", "keyCause", "()I"⟩ ⟨"ObjectLoads$Thing", "keyCause", "()I"⟩ ∈ ol_all := ol_in4 105 (by decide +kernel) rfl
theorem wd_826 : Cond.sameMethod "ObjectLoads$Thing" "ObjectLoads$Thing" "toldValue" "()I" ∈ ol_all := ol_in4 106 (by decide +kernel) rfl
theorem wd_827 : Cond.selects "ObjectLoads$Bridge" ⟨"ObjectLoads$Thing", "toldValue", "()I"⟩ ⟨"ObjectLoads$Thing", "toldValue", "()I"⟩ ∈ ol_all := ol_in4 107 (by decide +kernel) rfl
theorem wd_828 : Cond.selects "ObjectLoads$Broken" ⟨"ObjectLoads$Thing", "toldValue", "()I"⟩ ⟨"ObjectLoads$Broken", "toldValue", "()I"⟩ ∈ ol_all := ol_in4 108 (by decide +kernel) rfl
theorem wd_829 : Cond.selects "ObjectLoads$City" ⟨"ObjectLoads$Thing", "toldValue", "()I"⟩ ⟨"ObjectLoads$City", "toldValue", "()I"⟩ ∈ ol_all := ol_in4 109 (by decide +kernel) rfl
theorem wd_830 : Cond.selects "ObjectLoads$Empty" ⟨"ObjectLoads$Thing", "toldValue", "()I"⟩ ⟨"ObjectLoads$Thing", "toldValue", "()I"⟩ ∈ ol_all := ol_in4 110 (by decide +kernel) rfl
theorem wd_831 : Cond.selects "ObjectLoads$Masked" ⟨"ObjectLoads$Thing", "toldValue", "()I"⟩ ⟨"ObjectLoads$Masked", "toldValue", "()I"⟩ ∈ ol_all := ol_in4 111 (by decide +kernel) rfl
theorem wd_832 : Cond.selects "ObjectLoads$Point" ⟨"ObjectLoads$Thing", "toldValue", "()I"⟩ ⟨"ObjectLoads$Thing", "toldValue", "()I"⟩ ∈ ol_all := ol_in4 112 (by decide +kernel) rfl
theorem wd_833 : Cond.selects "ObjectLoads$ShortCity" ⟨"ObjectLoads$Thing", "toldValue", "()I"⟩ ⟨"ObjectLoads$ShortCity", "toldValue", "()I"⟩ ∈ ol_all := ol_in4 113 (by decide +kernel) rfl
theorem wd_834 : Cond.sameMethod "ObjectLoads$Thing" "ObjectLoads$Thing" "valueCause" "()I" ∈ ol_all := ol_in4 114 (by decide +kernel) rfl
theorem wd_835 : Cond.selects "ObjectLoads$Bridge" ⟨"ObjectLoads$Thing", "valueCause", "()I"⟩ ⟨"ObjectLoads$Thing", "valueCause", "()I"⟩ ∈ ol_all := ol_in4 115 (by decide +kernel) rfl
theorem wd_836 : Cond.selects "ObjectLoads$Broken" ⟨"ObjectLoads$Thing", "valueCause", "()I"⟩ ⟨"ObjectLoads$Broken", "valueCause", "()I"⟩ ∈ ol_all := ol_in4 116 (by decide +kernel) rfl
theorem wd_837 : Cond.selects "ObjectLoads$City" ⟨"ObjectLoads$Thing", "valueCause", "()I"⟩ ⟨"ObjectLoads$Thing", "valueCause", "()I"⟩ ∈ ol_all := ol_in4 117 (by decide +kernel) rfl
theorem wd_838 : Cond.selects "ObjectLoads$Empty" ⟨"ObjectLoads$Thing", "valueCause", "()I"⟩ ⟨"ObjectLoads$Thing", "valueCause", "()I"⟩ ∈ ol_all := ol_in4 118 (by decide +kernel) rfl
theorem wd_839 : Cond.selects "ObjectLoads$Masked" ⟨"ObjectLoads$Thing", "valueCause", "()I"⟩ ⟨"ObjectLoads$Thing", "valueCause", "()I"⟩ ∈ ol_all := ol_in4 119 (by decide +kernel) rfl
theorem wd_840 : Cond.selects "ObjectLoads$Point" ⟨"ObjectLoads$Thing", "valueCause", "()I"⟩ ⟨"ObjectLoads$Thing", "valueCause", "()I"⟩ ∈ ol_all := ol_in4 120 (by decide +kernel) rfl
theorem wd_841 : Cond.selects "ObjectLoads$ShortCity" ⟨"ObjectLoads$Thing", "valueCause", "()I"⟩ ⟨"ObjectLoads$Thing", "valueCause", "()I"⟩ ∈ ol_all := ol_in4 121 (by decide +kernel) rfl
theorem wd_842 : Cond.sameMethod "ObjectLoads$Thing" "ObjectLoads$Thing" "linkCount" "()I" ∈ ol_all := ol_in4 122 (by decide +kernel) rfl
theorem wd_843 : Cond.selects "ObjectLoads$Bridge" ⟨"ObjectLoads$Thing", "linkCount", "()I"⟩ ⟨"ObjectLoads$Bridge", "linkCount", "()I"⟩ ∈ ol_all := ol_in4 123 (by decide +kernel) rfl
theorem wd_844 : Cond.selects "ObjectLoads$Broken" ⟨"ObjectLoads$Thing", "linkCount", "()I"⟩ ⟨"ObjectLoads$Point", "linkCount", "()I"⟩ ∈ ol_all := ol_in4 124 (by decide +kernel) rfl
theorem wd_845 : Cond.selects "ObjectLoads$City" ⟨"ObjectLoads$Thing", "linkCount", "()I"⟩ ⟨"ObjectLoads$City", "linkCount", "()I"⟩ ∈ ol_all := ol_in4 125 (by decide +kernel) rfl
theorem wd_846 : Cond.selects "ObjectLoads$Empty" ⟨"ObjectLoads$Thing", "linkCount", "()I"⟩ ⟨"ObjectLoads$Point", "linkCount", "()I"⟩ ∈ ol_all := ol_in4 126 (by decide +kernel) rfl
theorem wd_847 : Cond.selects "ObjectLoads$Masked" ⟨"ObjectLoads$Thing", "linkCount", "()I"⟩ ⟨"ObjectLoads$City", "linkCount", "()I"⟩ ∈ ol_all := ol_in4 127 (by decide +kernel) rfl
theorem wd_848 : Cond.selects "ObjectLoads$Point" ⟨"ObjectLoads$Thing", "linkCount", "()I"⟩ ⟨"ObjectLoads$Point", "linkCount", "()I"⟩ ∈ ol_all := ol_in4 128 (by decide +kernel) rfl
theorem wd_849 : Cond.selects "ObjectLoads$ShortCity" ⟨"ObjectLoads$Thing", "linkCount", "()I"⟩ ⟨"ObjectLoads$ShortCity", "linkCount", "()I"⟩ ∈ ol_all := ol_in4 129 (by decide +kernel) rfl
theorem wd_850 : Cond.sameMethod "ObjectLoads$Thing" "ObjectLoads$Thing" "linksCause" "()I" ∈ ol_all := ol_in4 130 (by decide +kernel) rfl
theorem wd_851 : Cond.selects "ObjectLoads$Bridge" ⟨"ObjectLoads$Thing", "linksCause", "()I"⟩ ⟨"ObjectLoads$Thing", "linksCause", "()I"⟩ ∈ ol_all := ol_in4 131 (by decide +kernel) rfl
theorem wd_852 : Cond.selects "ObjectLoads$Broken" ⟨"ObjectLoads$Thing", "linksCause", "()I"⟩ ⟨"ObjectLoads$Point", "linksCause", "()I"⟩ ∈ ol_all := ol_in4 132 (by decide +kernel) rfl
theorem wd_853 : Cond.selects "ObjectLoads$City" ⟨"ObjectLoads$Thing", "linksCause", "()I"⟩ ⟨"ObjectLoads$Thing", "linksCause", "()I"⟩ ∈ ol_all := ol_in4 133 (by decide +kernel) rfl
theorem wd_854 : Cond.selects "ObjectLoads$Empty" ⟨"ObjectLoads$Thing", "linksCause", "()I"⟩ ⟨"ObjectLoads$Point", "linksCause", "()I"⟩ ∈ ol_all := ol_in4 134 (by decide +kernel) rfl
theorem wd_855 : Cond.selects "ObjectLoads$Masked" ⟨"ObjectLoads$Thing", "linksCause", "()I"⟩ ⟨"ObjectLoads$Masked", "linksCause", "()I"⟩ ∈ ol_all := ol_in4 135 (by decide +kernel) rfl
theorem wd_856 : Cond.selects "ObjectLoads$Point" ⟨"ObjectLoads$Thing", "linksCause", "()I"⟩ ⟨"ObjectLoads$Point", "linksCause", "()I"⟩ ∈ ol_all := ol_in4 136 (by decide +kernel) rfl
theorem wd_857 : Cond.selects "ObjectLoads$ShortCity" ⟨"ObjectLoads$Thing", "linksCause", "()I"⟩ ⟨"ObjectLoads$ShortCity", "linksCause", "()I"⟩ ∈ ol_all := ol_in4 137 (by decide +kernel) rfl
theorem wq_0 : Cond.selects "ObjectLoads" ⟨"ObjectLoads", "known", "(I)LObjectLoads$Thing;"⟩ ⟨"ObjectLoads", "known", "(I)LObjectLoads$Thing;"⟩ ∈ ol_all := ol_inP 0 (by decide +kernel) rfl
theorem wq_1 : Cond.selects "ObjectLoads" ⟨"ObjectLoads", "isThing", "(I)Z"⟩ ⟨"ObjectLoads", "isThing", "(I)Z"⟩ ∈ ol_all := ol_inP 1 (by decide +kernel) rfl
theorem wq_2 : Cond.selects "ObjectLoads" ⟨"ObjectLoads", "isThingOrNone", "(I)Z"⟩ ⟨"ObjectLoads", "isThingOrNone", "(I)Z"⟩ ∈ ol_all := ol_inP 2 (by decide +kernel) rfl
theorem wq_3 : Cond.selects "ObjectLoads" ⟨"ObjectLoads", "endLoad", "(III)V"⟩ ⟨"ObjectLoads", "endLoad", "(III)V"⟩ ∈ ol_all := ol_inP 3 (by decide +kernel) rfl
theorem wq_4 : Cond.selects "ObjectLoads" ⟨"ObjectLoads", "build", "(LObjectLoads$Node;Z)Z"⟩ ⟨"ObjectLoads", "build", "(LObjectLoads$Node;Z)Z"⟩ ∈ ol_all := ol_inP 4 (by decide +kernel) rfl
theorem wq_5 : Cond.selects "ObjectLoads" ⟨"ObjectLoads", "askKey", "(ILObjectLoads$Node;)Z"⟩ ⟨"ObjectLoads", "askKey", "(ILObjectLoads$Node;)Z"⟩ ∈ ol_all := ol_inP 5 (by decide +kernel) rfl
theorem wq_6 : Cond.selects "ObjectLoads" ⟨"ObjectLoads", "failed", "(LObjectLoads$Thing;I)Z"⟩ ⟨"ObjectLoads", "failed", "(LObjectLoads$Thing;I)Z"⟩ ∈ ol_all := ol_inP 6 (by decide +kernel) rfl
theorem wq_7 : Cond.selects "ObjectLoads" ⟨"ObjectLoads", "askValue", "(ILObjectLoads$Node;)Z"⟩ ⟨"ObjectLoads", "askValue", "(ILObjectLoads$Node;)Z"⟩ ∈ ol_all := ol_inP 7 (by decide +kernel) rfl
theorem wq_8 : Cond.selects "ObjectLoads" ⟨"ObjectLoads", "askLinks", "(ILObjectLoads$Node;)Z"⟩ ⟨"ObjectLoads", "askLinks", "(ILObjectLoads$Node;)Z"⟩ ∈ ol_all := ol_inP 8 (by decide +kernel) rfl
theorem wq_9 : Cond.selects "ObjectLoads" ⟨"ObjectLoads", "follow", "(LObjectLoads$Node;LObjectLoads$Thing;)Z"⟩ ⟨"ObjectLoads", "follow", "(LObjectLoads$Node;LObjectLoads$Thing;)Z"⟩ ∈ ol_all := ol_inP 9 (by decide +kernel) rfl
theorem wq_10 : Cond.selects "ObjectLoads" ⟨"ObjectLoads", "cross", "(LObjectLoads$Node;LObjectLoads$Bridge;)Z"⟩ ⟨"ObjectLoads", "cross", "(LObjectLoads$Node;LObjectLoads$Bridge;)Z"⟩ ∈ ol_all := ol_inP 10 (by decide +kernel) rfl
theorem wq_11 : Cond.selects "ObjectLoadsModel" ⟨"ObjectLoadsModel", "beginAll", "()V"⟩ ⟨"ObjectLoadsModel", "beginAll", "()V"⟩ ∈ ol_all := ol_inP 11 (by decide +kernel) rfl
theorem wq_12 : Cond.selects "ObjectLoadsModel" ⟨"ObjectLoadsModel", "isThing", "(I)Z"⟩ ⟨"ObjectLoadsModel", "isThing", "(I)Z"⟩ ∈ ol_all := ol_inP 12 (by decide +kernel) rfl
theorem wq_13 : Cond.selects "ObjectLoadsModel" ⟨"ObjectLoadsModel", "isBridge", "(I)Z"⟩ ⟨"ObjectLoadsModel", "isBridge", "(I)Z"⟩ ∈ ol_all := ol_inP 13 (by decide +kernel) rfl
theorem wq_14 : Cond.selects "ObjectLoadsModel" ⟨"ObjectLoadsModel", "found", "(II)I"⟩ ⟨"ObjectLoadsModel", "found", "(II)I"⟩ ∈ ol_all := ol_inP 14 (by decide +kernel) rfl
theorem wq_15 : Cond.selects "ObjectLoadsModel" ⟨"ObjectLoadsModel", "ask", "(IIZ)I"⟩ ⟨"ObjectLoadsModel", "ask", "(IIZ)I"⟩ ∈ ol_all := ol_inP 15 (by decide +kernel) rfl
theorem wq_16 : Cond.selects "ObjectLoadsModel" ⟨"ObjectLoadsModel", "tellKey", "(I)I"⟩ ⟨"ObjectLoadsModel", "tellKey", "(I)I"⟩ ∈ ol_all := ol_inP 16 (by decide +kernel) rfl
theorem wq_17 : Cond.selects "ObjectLoadsModel" ⟨"ObjectLoadsModel", "refuse", "(III)I"⟩ ⟨"ObjectLoadsModel", "refuse", "(III)I"⟩ ∈ ol_all := ol_inP 17 (by decide +kernel) rfl
theorem wq_18 : Cond.selects "ObjectLoadsModel" ⟨"ObjectLoadsModel", "tellValue", "(I)I"⟩ ⟨"ObjectLoadsModel", "tellValue", "(I)I"⟩ ∈ ol_all := ol_inP 18 (by decide +kernel) rfl
theorem wq_19 : Cond.selects "ObjectLoadsModel" ⟨"ObjectLoadsModel", "tellLinks", "(I)I"⟩ ⟨"ObjectLoadsModel", "tellLinks", "(I)I"⟩ ∈ ol_all := ol_inP 19 (by decide +kernel) rfl
theorem wq_20 : Cond.selects "ObjectLoadsModel" ⟨"ObjectLoadsModel", "arcsOf", "(II)I"⟩ ⟨"ObjectLoadsModel", "arcsOf", "(II)I"⟩ ∈ ol_all := ol_inP 20 (by decide +kernel) rfl
theorem wq_21 : Cond.selects "ObjectLoadsModel" ⟨"ObjectLoadsModel", "tellEnd", "(II)I"⟩ ⟨"ObjectLoadsModel", "tellEnd", "(II)I"⟩ ∈ ol_all := ol_inP 21 (by decide +kernel) rfl
theorem wq_22 : Cond.selects "ObjectLoadsModel" ⟨"ObjectLoadsModel", "isNode", "(I)Z"⟩ ⟨"ObjectLoadsModel", "isNode", "(I)Z"⟩ ∈ ol_all := ol_inP 22 (by decide +kernel) rfl
end
section
/-! THE LAYER: a typed memory over the kit's pools. Locals as a list, the heap as a role of each address, its ints, its references. -/
def ol_las : Nat → List (Option Value) → List (Nat × Value)
  | _, [] => []
  | k, none :: t => ol_las (k + 1) t
  | k, some v :: t => (k, v) :: ol_las (k + 1) t
theorem ol_las_mem : ∀ (lv : List (Option Value)) (k i : Nat) (v : Value), (i, v) ∈ ol_las k lv ↔ k ≤ i ∧ lv[i - k]? = some (some v)
  | [], k, i, v => by simp [ol_las]
  | none :: t, k, i, v => by
    rw [ol_las, ol_las_mem t (k + 1) i v]
    constructor
    · rintro ⟨h1, h2⟩
      refine ⟨by omega, ?_⟩
      rw [show i - k = (i - (k + 1)) + 1 by omega, List.getElem?_cons_succ]
      exact h2
    · rintro ⟨h1, h2⟩
      by_cases h : i = k
      · subst h
        rw [Nat.sub_self] at h2
        cases h2
      · refine ⟨by omega, ?_⟩
        rw [show i - k = (i - (k + 1)) + 1 by omega, List.getElem?_cons_succ] at h2
        exact h2
  | some w :: t, k, i, v => by
    rw [ol_las, List.mem_cons, ol_las_mem t (k + 1) i v]
    constructor
    · rintro (h | ⟨h1, h2⟩)
      · have e1 : i = k := congrArg Prod.fst h
        have e2 : v = w := congrArg Prod.snd h
        subst e1; subst e2
        refine ⟨Nat.le_refl _, ?_⟩
        rw [Nat.sub_self]
        rfl
      · refine ⟨by omega, ?_⟩
        rw [show i - k = (i - (k + 1)) + 1 by omega, List.getElem?_cons_succ]
        exact h2
    · rintro ⟨h1, h2⟩
      by_cases h : i = k
      · subst h
        left
        rw [Nat.sub_self] at h2
        have e2 : w = v := Option.some.inj (Option.some.inj h2)
        rw [e2]
      · right
        refine ⟨by omega, ?_⟩
        rw [show i - k = (i - (k + 1)) + 1 by omega, List.getElem?_cons_succ] at h2
        exact h2
def ol_LH (ls : Array Slot) (nL : Nat) (lv : List (Option Value)) : Prop := lv_has ls nL (ol_las 0 lv) ∧ ∀ (i : Nat) (v : Value), lv[i]? = some (some v) → v.category = 1
theorem ol_LH.at {ls : Array Slot} {nL : Nat} {lv : List (Option Value)} (h : ol_LH ls nL lv) {i : Nat} {v : Value} (hv : lv[i]? = some (some v)) : ls[i]? = some (.val v) :=
  h.1.2.2 (i, v) ((ol_las_mem lv 0 i v).mpr ⟨Nat.zero_le _, hv⟩)
theorem ol_LH.sub {ls : Array Slot} {nL : Nat} {lv lv' : List (Option Value)} (h : ol_LH ls nL lv) (hs : ∀ (i : Nat) (v : Value), lv'[i]? = some (some v) → lv[i]? = some (some v)) : ol_LH ls nL lv' := by
  refine ⟨⟨h.1.1, h.1.2.1, fun q hq => ?_⟩, fun i v hv => h.2 i v (hs i v hv)⟩
  obtain ⟨i, v⟩ := q
  have h1 := (ol_las_mem lv' 0 i v).mp hq
  exact h.at (hs i v h1.2)
theorem ol_LH.store {ls ls' : Array Slot} {nL : Nat} {lv : List (Option Value)} {i : Nat} {v : Value} (h : ol_LH ls nL lv) (hc : v.category = 1) (hl : lv_has ls' nL ((i, v) :: (ol_las 0 lv).filter (fun q => !(q.1 == i) && !(q.1 + 1 == i && q.2.category == 2)))) : ol_LH ls' nL (lv.set i (some v)) := by
  have key : ∀ (j : Nat) (w : Value), (lv.set i (some v))[j]? = some (some w) → (j = i ∧ w = v) ∨ (j ≠ i ∧ lv[j]? = some (some w)) := by
    intro j w hj
    by_cases hji : j = i
    · subst hji
      by_cases hlen : j < lv.length
      · rw [List.getElem?_set_self hlen] at hj
        exact Or.inl ⟨rfl, (Option.some.inj (Option.some.inj hj)).symm⟩
      · rw [List.getElem?_eq_none (by rw [List.length_set]; omega)] at hj
        cases hj
    · rw [List.getElem?_set_ne (Ne.symm hji)] at hj
      exact Or.inr ⟨hji, hj⟩
  refine ⟨⟨hl.1, hl.2.1, fun q hq => ?_⟩, fun j w hj => ?_⟩
  · obtain ⟨j, w⟩ := q
    have h1 := ((ol_las_mem _ 0 j w).mp hq).2
    rcases key j w h1 with ⟨rfl, rfl⟩ | ⟨h2, h3⟩
    · exact hl.2.2 (j, w) List.mem_cons_self
    · refine hl.2.2 (j, w) (List.mem_cons_of_mem _ (List.mem_filter.mpr ⟨(ol_las_mem lv 0 j w).mpr ⟨Nat.zero_le _, h3⟩, ?_⟩))
      have h4 := h.2 j w h3
      simp [h2, h4]
  · rcases key j w hj with ⟨-, rfl⟩ | ⟨-, h3⟩
    · exact hc
    · exact h.2 j w h3
theorem ol_args : ∀ (vs : List Value) (k : Nat), (∀ v ∈ vs, v.category = 1) → lv_args k vs = ol_las k (vs.map some)
  | [], k, _ => rfl
  | v :: t, k, h => by
    have h1 : v.category = 1 := h v List.mem_cons_self
    rw [lv_args, if_neg (by rw [h1]; decide), List.map_cons, ol_las, ol_args t (k + 1) (fun w hw => h w (List.mem_cons_of_mem _ hw))]
theorem ol_LH.entry {ls : Array Slot} {n : Nat} {vs : List Value} (k : Nat) (hc : ∀ v ∈ vs, v.category = 1) (h : lv_has ls n (lv_args 0 vs)) : ol_LH ls n (vs.map some ++ List.replicate k none) := by
  rw [ol_args vs 0 hc] at h
  have h0 : ol_LH ls n (vs.map some) := by
    refine ⟨h, fun i v hv => ?_⟩
    rw [List.getElem?_map] at hv
    cases hi : vs[i]? with
    | none => rw [hi] at hv; cases hv
    | some w =>
      rw [hi] at hv
      have e : w = v := Option.some.inj (Option.some.inj hv)
      rw [← e]
      exact hc w (List.mem_of_getElem? hi)
  refine h0.sub (fun i v hv => ?_)
  by_cases hl : i < (vs.map some).length
  · rw [List.getElem?_append_left hl] at hv
    exact hv
  · rw [List.getElem?_append_right (by omega), List.getElem?_replicate] at hv
    split at hv
    · cases hv
    · cases hv
/-- a reference or none -/
theorem ol_rfc (r : Option Nat) : (va_rf r).category = 1 := by cases r <;> rfl
def ol_isq (v : Value) : Prop := ∃ r : Option Nat, v = va_rf r
theorem ol_isq_r (a : Nat) : ol_isq (.ref a) := ⟨some a, rfl⟩
theorem ol_isq_n : ol_isq .null := ⟨none, rfl⟩
theorem ol_isq_q (r : Option Nat) : ol_isq (va_rf r) := ⟨r, rfl⟩
/-- two steps down: row a, place k -/
def ol_u2 {α : Type} (I : Nat → Nat → α) (a k : Nat) (v : α) : Nat → Nat → α := va_up I a (va_up (I a) k v)
theorem ol_u2_s {α : Type} (I : Nat → Nat → α) (a k : Nat) (v : α) : ol_u2 I a k v a k = v := by simp [ol_u2, va_up]
theorem ol_u2_k {α : Type} (I : Nat → Nat → α) {a k j : Nat} (v : α) (h : j ≠ k) : ol_u2 I a k v a j = I a j := by simp [ol_u2, va_up, h]
theorem ol_u2_a {α : Type} (I : Nat → Nat → α) {a k b : Nat} (v : α) (h : b ≠ a) : ol_u2 I a k v b = I b := by simp [ol_u2, va_up, h]
theorem ol_u2_v {α : Type} (I : Nat → Nat → α) (a k : Nat) (v : α) (b j : Nat) : ol_u2 I a k v b j = if b = a ∧ j = k then v else I b j := by
  by_cases h : b = a
  · subst h
    by_cases h2 : j = k <;> simp [ol_u2, va_up, h2]
  · simp [ol_u2, va_up, h]
/-- the fields of an object: of each whether it is a reference -/
def ol_fv : List Bool → Nat → (Nat → Int32) → (Nat → Option Nat) → List Value
  | [], _, _, _ => []
  | b :: t, k, I, F => (if b = true then va_rf (F k) else .int (I k)) :: ol_fv t (k + 1) I F
theorem ol_fv_len : ∀ (ks : List Bool) (k : Nat) (I : Nat → Int32) (F : Nat → Option Nat), (ol_fv ks k I F).length = ks.length
  | [], _, _, _ => rfl
  | b :: t, k, I, F => by rw [ol_fv, List.length_cons, List.length_cons, ol_fv_len t]
theorem ol_fv_get : ∀ (ks : List Bool) (k0 k : Nat) (I : Nat → Int32) (F : Nat → Option Nat) (b : Bool), ks[k]? = some b → (ol_fv ks k0 I F)[k]? = some (if b = true then va_rf (F (k0 + k)) else .int (I (k0 + k)))
  | [], _, k, _, _, b, h => by simp at h
  | c :: t, k0, 0, I, F, b, h => by
    have e : c = b := Option.some.inj h
    subst e
    rfl
  | c :: t, k0, k + 1, I, F, b, h => by
    rw [List.getElem?_cons_succ] at h
    rw [ol_fv, List.getElem?_cons_succ, ol_fv_get t (k0 + 1) k I F b h]
    rw [show k0 + 1 + k = k0 + (k + 1) by omega]
theorem ol_fv_ext : ∀ (ks : List Bool) (k0 : Nat) (I I' : Nat → Int32) (F F' : Nat → Option Nat), (∀ k, ks[k]? = some false → I' (k0 + k) = I (k0 + k)) → (∀ k, ks[k]? = some true → F' (k0 + k) = F (k0 + k)) → ol_fv ks k0 I' F' = ol_fv ks k0 I F
  | [], _, _, _, _, _, _, _ => rfl
  | c :: t, k0, I, I', F, F', h1, h2 => by
    rw [ol_fv, ol_fv, ol_fv_ext t (k0 + 1) I I' F F' (fun k h => by have := h1 (k + 1) (by rw [List.getElem?_cons_succ]; exact h); rw [show k0 + 1 + k = k0 + (k + 1) by omega]; exact this) (fun k h => by have := h2 (k + 1) (by rw [List.getElem?_cons_succ]; exact h); rw [show k0 + 1 + k = k0 + (k + 1) by omega]; exact this)]
    cases c with
    | false => rw [if_neg (by decide), if_neg (by decide)]; have := h1 0 rfl; rw [Nat.add_zero] at this; rw [this]
    | true => rw [if_pos rfl, if_pos rfl]; have := h2 0 rfl; rw [Nat.add_zero] at this; rw [this]
theorem ol_fv_setI (ks : List Bool) (k : Nat) (I : Nat → Int32) (F : Nat → Option Nat) (v : Int32) (hk : ks[k]? = some false) : (ol_fv ks 0 I F).set k (.int v) = ol_fv ks 0 (va_up I k v) F := by
  apply List.ext_getElem?
  intro j
  have hl : k < (ol_fv ks 0 I F).length := by rw [ol_fv_len]; exact (List.getElem?_eq_some_iff.mp hk).1
  by_cases hj : j = k
  · subst hj
    rw [List.getElem?_set_self hl, ol_fv_get ks 0 j _ _ false hk, if_neg (by decide), Nat.zero_add, va_up_self]
  · rw [List.getElem?_set_ne (Ne.symm hj)]
    cases hb : ks[j]? with
    | none =>
      rw [List.getElem?_eq_none (by rw [ol_fv_len]; exact List.getElem?_eq_none_iff.mp hb), List.getElem?_eq_none (by rw [ol_fv_len]; exact List.getElem?_eq_none_iff.mp hb)]
    | some b =>
      rw [ol_fv_get ks 0 j _ _ b hb, ol_fv_get ks 0 j _ _ b hb, Nat.zero_add, va_up_ne _ _ hj]
theorem ol_fv_setF (ks : List Bool) (k : Nat) (I : Nat → Int32) (F : Nat → Option Nat) (v : Option Nat) (hk : ks[k]? = some true) : (ol_fv ks 0 I F).set k (va_rf v) = ol_fv ks 0 I (va_up F k v) := by
  apply List.ext_getElem?
  intro j
  have hl : k < (ol_fv ks 0 I F).length := by rw [ol_fv_len]; exact (List.getElem?_eq_some_iff.mp hk).1
  by_cases hj : j = k
  · subst hj
    rw [List.getElem?_set_self hl, ol_fv_get ks 0 j _ _ true hk, if_pos rfl, Nat.zero_add, va_up_self]
  · rw [List.getElem?_set_ne (Ne.symm hj)]
    cases hb : ks[j]? with
    | none =>
      rw [List.getElem?_eq_none (by rw [ol_fv_len]; exact List.getElem?_eq_none_iff.mp hb), List.getElem?_eq_none (by rw [ol_fv_len]; exact List.getElem?_eq_none_iff.mp hb)]
    | some b =>
      rw [ol_fv_get ks 0 j _ _ b hb, ol_fv_get ks 0 j _ _ b hb, Nat.zero_add, va_up_ne _ _ hj]
/-- what a new object of class ci holds -/
theorem ol_cl_df : ∀ (ci : Nat) (q : vw_C), ol_cl[ci]? = some q → ∀ j, j < q.2.2 → defaultValue (ol_ty ci j) = vp_V (ol_fv (ol_fk ci) 0 (fun _ => 0) (fun _ => none)) j := by
  intro ci q h
  match ci, h with
  | 0, h =>
    cases h
    intro j hj
    match j, hj with
    | 0, _ => rfl
    | 1, _ => rfl
    | 2, _ => rfl
    | 3, _ => rfl
    | 4, _ => rfl
    | 5, _ => rfl
    | 6, _ => rfl
    | 7, _ => rfl
    | k + 8, hj => exact absurd hj (by show ¬ (k + 8 < 8); omega)
  | 1, h =>
    cases h
    intro j hj
    match j, hj with
    | 0, _ => rfl
    | 1, _ => rfl
    | 2, _ => rfl
    | 3, _ => rfl
    | 4, _ => rfl
    | 5, _ => rfl
    | 6, _ => rfl
    | k + 7, hj => exact absurd hj (by show ¬ (k + 7 < 7); omega)
  | 2, h =>
    cases h
    intro j hj
    match j, hj with
    | 0, _ => rfl
    | 1, _ => rfl
    | 2, _ => rfl
    | 3, _ => rfl
    | 4, _ => rfl
    | 5, _ => rfl
    | 6, _ => rfl
    | k + 7, hj => exact absurd hj (by show ¬ (k + 7 < 7); omega)
  | 3, h =>
    cases h
    intro j hj
    match j, hj with
    | 0, _ => rfl
    | 1, _ => rfl
    | 2, _ => rfl
    | 3, _ => rfl
    | 4, _ => rfl
    | 5, _ => rfl
    | 6, _ => rfl
    | k + 7, hj => exact absurd hj (by show ¬ (k + 7 < 7); omega)
  | 4, h =>
    cases h
    intro j hj
    match j, hj with
    | 0, _ => rfl
    | 1, _ => rfl
    | 2, _ => rfl
    | 3, _ => rfl
    | 4, _ => rfl
    | 5, _ => rfl
    | 6, _ => rfl
    | k + 7, hj => exact absurd hj (by show ¬ (k + 7 < 7); omega)
  | 5, h =>
    cases h
    intro j hj
    match j, hj with
    | 0, _ => rfl
    | 1, _ => rfl
    | 2, _ => rfl
    | 3, _ => rfl
    | 4, _ => rfl
    | 5, _ => rfl
    | 6, _ => rfl
    | k + 7, hj => exact absurd hj (by show ¬ (k + 7 < 7); omega)
  | 6, h =>
    cases h
    intro j hj
    match j, hj with
    | 0, _ => rfl
    | 1, _ => rfl
    | 2, _ => rfl
    | 3, _ => rfl
    | 4, _ => rfl
    | 5, _ => rfl
    | 6, _ => rfl
    | k + 7, hj => exact absurd hj (by show ¬ (k + 7 < 7); omega)
  | 7, h =>
    cases h
    intro j hj
    match j, hj with
    | 0, _ => rfl
    | 1, _ => rfl
    | 2, _ => rfl
    | 3, _ => rfl
    | 4, _ => rfl
    | 5, _ => rfl
    | 6, _ => rfl
    | k + 7, hj => exact absurd hj (by show ¬ (k + 7 < 7); omega)
  | 8, h =>
    cases h
    intro j hj
    match j, hj with
    | 0, _ => rfl
    | 1, _ => rfl
    | 2, _ => rfl
    | 3, _ => rfl
    | 4, _ => rfl
    | 5, _ => rfl
    | 6, _ => rfl
    | 7, _ => rfl
    | 8, _ => rfl
    | 9, _ => rfl
    | 10, _ => rfl
    | 11, _ => rfl
    | k + 12, hj => exact absurd hj (by show ¬ (k + 12 < 12); omega)
  | 9, h =>
    cases h
    intro j hj
    match j, hj with
    | 0, _ => rfl
    | 1, _ => rfl
    | 2, _ => rfl
    | 3, _ => rfl
    | 4, _ => rfl
    | 5, _ => rfl
    | 6, _ => rfl
    | 7, _ => rfl
    | 8, _ => rfl
    | 9, _ => rfl
    | 10, _ => rfl
    | 11, _ => rfl
    | 12, _ => rfl
    | 13, _ => rfl
    | 14, _ => rfl
    | 15, _ => rfl
    | 16, _ => rfl
    | 17, _ => rfl
    | 18, _ => rfl
    | 19, _ => rfl
    | 20, _ => rfl
    | 21, _ => rfl
    | 22, _ => rfl
    | 23, _ => rfl
    | 24, _ => rfl
    | 25, _ => rfl
    | 26, _ => rfl
    | 27, _ => rfl
    | 28, _ => rfl
    | k + 29, hj => exact absurd hj (by show ¬ (k + 29 < 29); omega)
  | k + 10, h => simp [ol_cl] at h
/-- a cell's content by its kind: .inl ci an object of class ci, .inr (t, n) an array of kind t with n places -/
def ol_cell (cA : Nat → ClassId) (x : Nat ⊕ (Nat × Nat)) (I : Nat → Int32) (F : Nat → Option Nat) : va_E := match x with
  | .inl ci => .inr (ci, ol_fv (ol_fk ci) 0 I F)
  | .inr (t, n) => .inl (cA t, n, if ol_ar t = true then .inr (.inr (.inr (.inr F))) else .inl I)
def ol_cf (cA : Nat → ClassId) (ro : Nat → Nat) (I : Nat → Nat → Int32) (F : Nat → Nat → Option Nat) : Nat → va_E := fun a => ol_cell cA (ol_ct (ro a)) (I a) (F a)
/-- the heap holds the typed memory: all addresses that have a role -/
def ol_PG (D : va_G) (cA : Nat → ClassId) (A : Nat → Prop) (ro : Nat → Nat) (I : Nat → Nat → Int32) (F : Nat → Nat → Option Nat) (H : Heap) : Prop :=
  ∃ L : List Nat, (∀ a, a ∈ L ↔ ro a ≠ 0) ∧ va_P D ol_cl (va_pl L (ol_cf cA ro I F)) H ∧ va_D A (va_pl L (ol_cf cA ro I F))
theorem ol_pl_get {L : List Nat} {f : Nat → va_E} {a : Nat} (h : a ∈ L) : ∃ k : Nat, (va_pl L f)[k]? = some (a, f a) := va_pl_get (X := []) h
theorem ol_PG.lt {D : va_G} {cA : Nat → ClassId} {A : Nat → Prop} {ro : Nat → Nat} {I : Nat → Nat → Int32} {F : Nat → Nat → Option Nat} {H : Heap} (h : ol_PG D cA A ro I F H) {a : Nat} (ha : ro a ≠ 0) : a < H.size := by
  obtain ⟨L, h1, h2, h3⟩ := h
  exact va_pl_lt (X := []) h2 ((h1 a).mpr ha)
theorem ol_PG.mem {D : va_G} {cA : Nat → ClassId} {A : Nat → Prop} {ro : Nat → Nat} {I : Nat → Nat → Int32} {F : Nat → Nat → Option Nat} {H : Heap} (h : ol_PG D cA A ro I F H) {a : Nat} (ha : ro a ≠ 0) : A a := by
  obtain ⟨L, h1, h2, h3⟩ := h
  obtain ⟨k, hk⟩ := ol_pl_get (f := ol_cf cA ro I F) ((h1 a).mpr ha)
  exact h3.2 k _ hk
theorem ol_PG.weaken {D : va_G} {cA : Nat → ClassId} {A B : Nat → Prop} {ro : Nat → Nat} {I : Nat → Nat → Int32} {F : Nat → Nat → Option Nat} {H : Heap} (h : ol_PG D cA A ro I F H) (hAB : ∀ a, ro a ≠ 0 → A a → B a) : ol_PG D cA B ro I F H := by
  obtain ⟨L, h1, h2, h3⟩ := h
  refine ⟨L, h1, h2, h3.weaken (fun k q hk hA => hAB q.1 ?_ hA)⟩
  have hm := List.mem_of_getElem? hk
  obtain ⟨a, ha, e⟩ := List.mem_map.mp hm
  rw [← e]
  exact (h1 a).mp ha
theorem ol_set {D : va_G} {cA : Nat → ClassId} {A : Nat → Prop} {ro : Nat → Nat} {I I' : Nat → Nat → Int32} {F F' : Nat → Nat → Option Nat} {H1 : Heap} {L : List Nat} {k a : Nat} {e : va_E} (hL : ∀ a, a ∈ L ↔ ro a ≠ 0) (hD : va_D A (va_pl L (ol_cf cA ro I F))) (ha : a ∈ L) (hk : (va_pl L (ol_cf cA ro I F))[k]? = some (a, ol_cf cA ro I F a)) (he : e = ol_cell cA (ol_ct (ro a)) (I' a) (F' a)) (hI : ∀ b, b ≠ a → I' b = I b) (hF : ∀ b, b ≠ a → F' b = F b)
    (hP1 : va_P D ol_cl ((va_pl L (ol_cf cA ro I F)).set k (a, e)) H1) (hD1 : va_D A ((va_pl L (ol_cf cA ro I F)).set k (a, e))) : ol_PG D cA A ro I' F' H1 := by
  have hs : (va_pl L (ol_cf cA ro I F)).set k (a, e) = va_pl L (ol_cf cA ro I' F') := by
    have h1 : (va_pl L (ol_cf cA ro I F)).set k (a, e) = va_pl L (va_up (ol_cf cA ro I F) a e) := va_pl_set (X := []) hD ha hk
    rw [h1]
    refine va_pl_congr (fun b => ?_)
    by_cases hb : b = a
    · subst hb
      rw [va_up_self, he]
      rfl
    · rw [va_up_ne _ _ hb]
      unfold ol_cf
      rw [hI b hb, hF b hb]
  rw [hs] at hP1 hD1
  exact ⟨L, hL, hP1, hD1⟩
theorem ol_push {D : va_G} {cA : Nat → ClassId} {A : Nat → Prop} {ro : Nat → Nat} {I I' : Nat → Nat → Int32} {F F' : Nat → Nat → Option Nat} {H1 : Heap} {L : List Nat} {q r : Nat} {e : va_E} (hL : ∀ a, a ∈ L ↔ ro a ≠ 0) (hr : r ≠ 0) (he : e = ol_cell cA (ol_ct r) (I' q) (F' q)) (hI : ∀ b, b ≠ q → I' b = I b) (hF : ∀ b, b ≠ q → F' b = F b)
    (hP1 : va_P D ol_cl (va_pl L (ol_cf cA ro I F) ++ [(q, e)]) H1) (hD1 : va_D A (va_pl L (ol_cf cA ro I F) ++ [(q, e)])) : ro q = 0 ∧ ol_PG D cA A (va_up ro q r) I' F' H1 := by
  have hq : q ∉ L := va_pl_fresh2 (X := []) hD1
  have hq0 : ro q = 0 := Classical.byContradiction (fun h => hq ((hL q).mpr h))
  refine ⟨hq0, ?_⟩
  have hs : va_pl L (ol_cf cA ro I F) ++ [(q, e)] = va_pl (L ++ [q]) (ol_cf cA (va_up ro q r) I' F') := by
    rw [va_pl_push hq]
    refine va_pl_congr (fun b => ?_)
    by_cases hb : b = q
    · subst hb
      rw [va_up_self, he]
      unfold ol_cf
      rw [va_up_self]
    · rw [va_up_ne _ _ hb]
      unfold ol_cf
      rw [va_up_ne _ _ hb, hI b hb, hF b hb]
  rw [hs] at hP1 hD1
  refine ⟨L ++ [q], fun a => ?_, hP1, hD1⟩
  rw [List.mem_append, List.mem_singleton]
  by_cases hb : a = q
  · subst hb
    rw [va_up_self]
    exact ⟨fun _ => hr, fun _ => Or.inr rfl⟩
  · rw [va_up_ne _ _ hb, hL a]
    exact ⟨fun h => h.resolve_right hb, fun h => Or.inl h⟩
/-- what the tables say, beside the good words -/
def ol_k1 : Cond → Bool
  | .fieldLinkNest .. => true
  | .methodLinkNest .. => true
  | .castable .. => true
  | .declares _ => true
  | _ => false
theorem ol_w1 {w : Cond} {s U : State} (hk : ol_k1 w = true) (hW : s.WarmedH U.vm) (h : va_Nw w s) : va_Nw w U := by
  cases w <;> first | exact va_Nw.warmF hW h | exact va_Nw.warmM hW h | exact va_Nw.warmC hW h | exact va_Nw.warmD hW h | exact Bool.noConfusion hk
theorem ol_t1 {w : Cond} (hk : ol_k1 w = true) : w.onTables = true := by
  cases w <;> first | exact Bool.noConfusion hk | rfl
theorem ol_n1_ok : ∀ w ∈ ol_n1, ol_k1 w = true := by decide +kernel
def ol_KU (D : va_G) (cA : Nat → ClassId) (U : State) : Prop := va_K D ol_cl (ol_tys cA) U ∧ (∀ w ∈ ol_n1, va_Nw w U) ∧ (∀ q ∈ ol_n2, va_Nc q.1 q.2 U) ∧ ∀ q ∈ ol_n3, va_AO q U
theorem ol_KU.warm {D : va_G} {cA : Nat → ClassId} {s U : State} (hW : s.WarmedH U.vm) (h : ol_KU D cA s) : ol_KU D cA U :=
  ⟨va_K.moved hW.alike h.1, fun w hw => ol_w1 (ol_n1_ok w hw) hW (h.2.1 w hw), fun q hq => (h.2.2.1 q hq).moved hW.alike, fun q hq => (h.2.2.2 q hq).moved hW.alike⟩
theorem ol_KU.same {D : va_G} {cA : Nat → ClassId} {u U : State} (e : u.vm = U.vm) (h : ol_KU D cA u) : ol_KU D cA U := by
  have ha : u.vm.Alike U.vm := by rw [← e]; exact Vm.Alike.refl u.vm
  exact ⟨va_K.moved ha h.1, fun w hw => va_Nw.same (ol_t1 (ol_n1_ok w hw)) e (h.2.1 w hw), fun q hq => (h.2.2.1 q hq).moved ha, fun q hq => (h.2.2.2 q hq).moved ha⟩
/-- what holds all through a method's body -/
def ol_Cx (p : Program) (s : State) (m : MethodId) (args : Array Value) (c : Code) (cc : ByteArray) (nL : Nat) (own : String) (D : va_G) (cA : Nat → ClassId) (A : Nat → Prop) : Prop :=
  p.tables.exec = Jvm.exec ∧ c.code = cc ∧ c.maxLocals = nL ∧ s.vm.findClass own = some m.cls ∧ (∀ w ∈ ol_all, w.before args s = true) ∧ ol_KU D cA s ∧ ∀ q, s.heap.size ≤ q → A q
/-- the walk, the heap and the locals known by the typed memory -/
def ol_W (p : Program) (l : Launch) (e : Env) (R : Room) (s : State) (m : MethodId) (args : Array Value) (below : List Frame) (meth : Method) (c : Code) (D : va_G) (cA : Nat → ClassId) (A : Nat → Prop) (Q : State → Prop) (nL : Nat) (ro : Nat → Nat) (I : Nat → Nat → Int32) (F : Nat → Nat → Option Nat) (cells slots : Nat) (pc : Nat) (lv : List (Option Value)) (st : List Value) : Prop :=
  ∀ (H : Heap) (locs : List Loc) (ls : Array Slot), ol_PG D cA A ro I F H → va_S A s.heap H locs → ol_LH ls nL lv → W p l e R s m args below meth c H locs cells slots Q (F0 m pc ls st)
end
section
/-! THE ROWS of the layer, an instruction each -/
section OLR
variable {p : Program} {l : Launch} {e : Env} {R : Room} {s : State} {m : MethodId} {args : Array Value} {below : List Frame} {meth : Method} {c : Code} {D : va_G} {cA : Nat → ClassId} {A : Nat → Prop} {Q : State → Prop} {nL : Nat} {ro : Nat → Nat} {I : Nat → Nat → Int32} {F : Nat → Nat → Option Nat} {cells slots pc : Nat} {lv : List (Option Value)} {rest : List Value} {cc : ByteArray} {own : String}
theorem ol_widen {k n : Nat} {st : List Value} (h1 : cells ≤ k) (h2 : slots ≤ n) (kk : ol_W p l e R s m args below meth c D cA A Q nL ro I F k n pc lv st) : ol_W p l e R s m args below meth c D cA A Q nL ro I F cells slots pc lv st :=
  fun H locs ls hP hS hl => W.widen h1 h2 (kk H locs ls hP hS hl)
theorem ol_lv {st : List Value} {lv' : List (Option Value)} (hs : ∀ (i : Nat) (v : Value), lv'[i]? = some (some v) → lv[i]? = some (some v)) (kk : ol_W p l e R s m args below meth c D cA A Q nL ro I F cells slots pc lv' st) : ol_W p l e R s m args below meth c D cA A Q nL ro I F cells slots pc lv st :=
  fun H locs ls hP hS hl => kk H locs ls hP hS (hl.sub hs)
theorem ol_iconst {n : Int} {v : Int32} (C : ol_Cx p s m args c cc nL own D cA A) (hdg : decode cc pc = .ok (.iconst n, 1)) (hv : Int32.ofInt n = v) (kk : ol_W p l e R s m args below meth c D cA A Q nL ro I F cells slots (pc + 1) lv (.int v :: rest)) : ol_W p l e R s m args below meth c D cA A Q nL ro I F cells slots pc lv rest :=
  fun H locs ls hP hS hl => lv_iconst C.1 C.2.1 hdg hv (kk H locs ls hP hS hl)
theorem ol_bipush {n : Int} {v : Int32} (C : ol_Cx p s m args c cc nL own D cA A) (hdg : decode cc pc = .ok (.bipush n, 2)) (hv : (Int8.ofInt n).toInt32 = v) (kk : ol_W p l e R s m args below meth c D cA A Q nL ro I F cells slots (pc + 2) lv (.int v :: rest)) : ol_W p l e R s m args below meth c D cA A Q nL ro I F cells slots pc lv rest :=
  fun H locs ls hP hS hl => lv_bipush C.1 C.2.1 hdg hv (kk H locs ls hP hS hl)
theorem ol_sipush {n : Int} {v : Int32} (C : ol_Cx p s m args c cc nL own D cA A) (hdg : decode cc pc = .ok (.sipush n, 3)) (hv : (Int16.ofInt n).toInt32 = v) (kk : ol_W p l e R s m args below meth c D cA A Q nL ro I F cells slots (pc + 3) lv (.int v :: rest)) : ol_W p l e R s m args below meth c D cA A Q nL ro I F cells slots pc lv rest :=
  fun H locs ls hP hS hl => lv_sipush C.1 C.2.1 hdg hv (kk H locs ls hP hS hl)
theorem ol_ldc {index : Nat} {v : Int32} (C : ol_Cx p s m args c cc nL own D cA A) (hw : Cond.constant own index v ∈ ol_all) (hdg : decode cc pc = .ok (.ldc index, 2)) (kk : ol_W p l e R s m args below meth c D cA A Q nL ro I F cells slots (pc + 2) lv (.int v :: rest)) : ol_W p l e R s m args below meth c D cA A Q nL ro I F cells slots pc lv rest :=
  fun H locs ls hP hS hl => lv_ldc C.1 C.2.1 C.2.2.2.1 (C.2.2.2.2.1 _ hw) hdg (kk H locs ls hP hS hl)
theorem ol_null (C : ol_Cx p s m args c cc nL own D cA A) (hdg : decode cc pc = .ok (.aconst_null, 1)) (kk : ol_W p l e R s m args below meth c D cA A Q nL ro I F cells slots (pc + 1) lv (.null :: rest)) : ol_W p l e R s m args below meth c D cA A Q nL ro I F cells slots pc lv rest :=
  fun H locs ls hP hS hl => lv_null C.1 C.2.1 hdg (kk H locs ls hP hS hl)
theorem ol_iload_n {k : Fin 4} {i : Nat} {x : Int32} (C : ol_Cx p s m args c cc nL own D cA A) (hdg : decode cc pc = .ok (.iload_n k, 1)) (hi : (k : Nat) = i) (hv : lv[i]? = some (some (.int x))) (kk : ol_W p l e R s m args below meth c D cA A Q nL ro I F cells slots (pc + 1) lv (.int x :: rest)) : ol_W p l e R s m args below meth c D cA A Q nL ro I F cells slots pc lv rest :=
  fun H locs ls hP hS hl => lv_iload_n C.1 C.2.1 hdg hi (hl.at hv) (kk H locs ls hP hS hl)
theorem ol_iload {i : Nat} {x : Int32} (C : ol_Cx p s m args c cc nL own D cA A) (hdg : decode cc pc = .ok (.iload i, 2)) (hv : lv[i]? = some (some (.int x))) (kk : ol_W p l e R s m args below meth c D cA A Q nL ro I F cells slots (pc + 2) lv (.int x :: rest)) : ol_W p l e R s m args below meth c D cA A Q nL ro I F cells slots pc lv rest :=
  fun H locs ls hP hS hl => lv_iload C.1 C.2.1 hdg (hl.at hv) (kk H locs ls hP hS hl)
theorem ol_aload_n {k : Fin 4} {i : Nat} {v : Value} (C : ol_Cx p s m args c cc nL own D cA A) (hdg : decode cc pc = .ok (.aload_n k, 1)) (hi : (k : Nat) = i) (hv : lv[i]? = some (some v)) (hq : ol_isq v) (kk : ol_W p l e R s m args below meth c D cA A Q nL ro I F cells slots (pc + 1) lv (v :: rest)) : ol_W p l e R s m args below meth c D cA A Q nL ro I F cells slots pc lv rest := by
  intro H locs ls hP hS hl
  obtain ⟨r, rfl⟩ := hq
  cases r with
  | none => exact lv_aload_nN C.1 C.2.1 hdg hi (hl.at hv) (kk H locs ls hP hS hl)
  | some a => exact lv_aload_n C.1 C.2.1 hdg hi (hl.at hv) (kk H locs ls hP hS hl)
theorem ol_aload {i : Nat} {v : Value} (C : ol_Cx p s m args c cc nL own D cA A) (hdg : decode cc pc = .ok (.aload i, 2)) (hv : lv[i]? = some (some v)) (hq : ol_isq v) (kk : ol_W p l e R s m args below meth c D cA A Q nL ro I F cells slots (pc + 2) lv (v :: rest)) : ol_W p l e R s m args below meth c D cA A Q nL ro I F cells slots pc lv rest := by
  intro H locs ls hP hS hl
  obtain ⟨r, rfl⟩ := hq
  cases r with
  | none => exact lv_aloadN C.1 C.2.1 hdg (hl.at hv) (kk H locs ls hP hS hl)
  | some a => exact lv_aload C.1 C.2.1 hdg (hl.at hv) (kk H locs ls hP hS hl)
theorem ol_istore_n {k : Fin 4} {i : Nat} {x : Int32} (C : ol_Cx p s m args c cc nL own D cA A) (hdg : decode cc pc = .ok (.istore_n k, 1)) (hi : (k : Nat) = i) (hn : i < nL) (kk : ol_W p l e R s m args below meth c D cA A Q nL ro I F cells slots (pc + 1) (lv.set i (some (.int x))) rest) : ol_W p l e R s m args below meth c D cA A Q nL ro I F cells slots pc lv (.int x :: rest) :=
  fun H locs ls hP hS hl => lv_istore_n C.1 C.2.1 hdg hi hl.1 hn rfl (fun ls' hl' => kk H locs ls' hP hS (hl.store rfl hl'))
theorem ol_istore {i : Nat} {x : Int32} (C : ol_Cx p s m args c cc nL own D cA A) (hdg : decode cc pc = .ok (.istore i, 2)) (hn : i < nL) (kk : ol_W p l e R s m args below meth c D cA A Q nL ro I F cells slots (pc + 2) (lv.set i (some (.int x))) rest) : ol_W p l e R s m args below meth c D cA A Q nL ro I F cells slots pc lv (.int x :: rest) :=
  fun H locs ls hP hS hl => lv_istore C.1 C.2.1 hdg hl.1 hn rfl (fun ls' hl' => kk H locs ls' hP hS (hl.store rfl hl'))
theorem ol_astore_n {k : Fin 4} {i : Nat} {v : Value} (C : ol_Cx p s m args c cc nL own D cA A) (hdg : decode cc pc = .ok (.astore_n k, 1)) (hi : (k : Nat) = i) (hn : i < nL) (hq : ol_isq v) (kk : ol_W p l e R s m args below meth c D cA A Q nL ro I F cells slots (pc + 1) (lv.set i (some v)) rest) : ol_W p l e R s m args below meth c D cA A Q nL ro I F cells slots pc lv (v :: rest) := by
  intro H locs ls hP hS hl
  obtain ⟨r, rfl⟩ := hq
  cases r with
  | none => exact lv_astore_nN C.1 C.2.1 hdg hi hl.1 hn rfl (fun ls' hl' => kk H locs ls' hP hS (hl.store rfl hl'))
  | some a => exact lv_astore_n C.1 C.2.1 hdg hi hl.1 hn rfl (fun ls' hl' => kk H locs ls' hP hS (hl.store rfl hl'))
theorem ol_astore {i : Nat} {v : Value} (C : ol_Cx p s m args c cc nL own D cA A) (hdg : decode cc pc = .ok (.astore i, 2)) (hn : i < nL) (hq : ol_isq v) (kk : ol_W p l e R s m args below meth c D cA A Q nL ro I F cells slots (pc + 2) (lv.set i (some v)) rest) : ol_W p l e R s m args below meth c D cA A Q nL ro I F cells slots pc lv (v :: rest) := by
  intro H locs ls hP hS hl
  obtain ⟨r, rfl⟩ := hq
  cases r with
  | none => exact lv_astoreN C.1 C.2.1 hdg hl.1 hn rfl (fun ls' hl' => kk H locs ls' hP hS (hl.store rfl hl'))
  | some a => exact lv_astore C.1 C.2.1 hdg hl.1 hn rfl (fun ls' hl' => kk H locs ls' hP hS (hl.store rfl hl'))
theorem ol_iinc {i : Nat} {n : Int} {x v : Int32} (C : ol_Cx p s m args c cc nL own D cA A) (hdg : decode cc pc = .ok (.iinc i n, 3)) (hx : lv[i]? = some (some (.int x))) (hv : x + Int32.ofInt n = v) (hn : i < nL) (kk : ol_W p l e R s m args below meth c D cA A Q nL ro I F cells slots (pc + 3) (lv.set i (some (.int v))) rest) : ol_W p l e R s m args below meth c D cA A Q nL ro I F cells slots pc lv rest := by
  intro H locs ls hP hS hl
  obtain ⟨k, hk⟩ := List.getElem?_of_mem ((ol_las_mem lv 0 i (.int x)).mpr ⟨Nat.zero_le _, hx⟩)
  exact lv_iinc C.1 C.2.1 hdg hl.1 hk hv hn rfl (fun ls' hl' => kk H locs ls' hP hS (hl.store rfl hl'))
theorem ol_iadd {x y : Int32} (C : ol_Cx p s m args c cc nL own D cA A) (hdg : decode cc pc = .ok (.iadd, 1)) (kk : ol_W p l e R s m args below meth c D cA A Q nL ro I F cells slots (pc + 1) lv (.int (x + y) :: rest)) : ol_W p l e R s m args below meth c D cA A Q nL ro I F cells slots pc lv (.int y :: .int x :: rest) :=
  fun H locs ls hP hS hl => lv_iadd C.1 C.2.1 hdg (kk H locs ls hP hS hl)
theorem ol_isub {x y : Int32} (C : ol_Cx p s m args c cc nL own D cA A) (hdg : decode cc pc = .ok (.isub, 1)) (kk : ol_W p l e R s m args below meth c D cA A Q nL ro I F cells slots (pc + 1) lv (.int (x - y) :: rest)) : ol_W p l e R s m args below meth c D cA A Q nL ro I F cells slots pc lv (.int y :: .int x :: rest) :=
  fun H locs ls hP hS hl => lv_isub C.1 C.2.1 hdg (kk H locs ls hP hS hl)
theorem ol_imul {x y : Int32} (C : ol_Cx p s m args c cc nL own D cA A) (hdg : decode cc pc = .ok (.imul, 1)) (kk : ol_W p l e R s m args below meth c D cA A Q nL ro I F cells slots (pc + 1) lv (.int (x * y) :: rest)) : ol_W p l e R s m args below meth c D cA A Q nL ro I F cells slots pc lv (.int y :: .int x :: rest) :=
  fun H locs ls hP hS hl => lv_imul C.1 C.2.1 hdg (kk H locs ls hP hS hl)
theorem ol_iand {x y : Int32} (C : ol_Cx p s m args c cc nL own D cA A) (hdg : decode cc pc = .ok (.iand, 1)) (kk : ol_W p l e R s m args below meth c D cA A Q nL ro I F cells slots (pc + 1) lv (.int (x &&& y) :: rest)) : ol_W p l e R s m args below meth c D cA A Q nL ro I F cells slots pc lv (.int y :: .int x :: rest) :=
  fun H locs ls hP hS hl => lv_iand C.1 C.2.1 hdg (kk H locs ls hP hS hl)
theorem ol_idiv {x y : Int32} (C : ol_Cx p s m args c cc nL own D cA A) (hdg : decode cc pc = .ok (.idiv, 1)) (hne : ¬ y = 0) (kk : ol_W p l e R s m args below meth c D cA A Q nL ro I F cells slots (pc + 1) lv (.int (x / y) :: rest)) : ol_W p l e R s m args below meth c D cA A Q nL ro I F cells slots pc lv (.int y :: .int x :: rest) :=
  fun H locs ls hP hS hl => lv_idiv C.1 C.2.1 hdg hne (kk H locs ls hP hS hl)
theorem ol_dup {v : Value} (C : ol_Cx p s m args c cc nL own D cA A) (hdg : decode cc pc = .ok (.dup, 1)) (hc : v.category = 1) (kk : ol_W p l e R s m args below meth c D cA A Q nL ro I F cells slots (pc + 1) lv (v :: v :: rest)) : ol_W p l e R s m args below meth c D cA A Q nL ro I F cells slots pc lv (v :: rest) :=
  fun H locs ls hP hS hl => lv_dup C.1 C.2.1 hdg hc (kk H locs ls hP hS hl)
theorem ol_pop {v : Value} (C : ol_Cx p s m args c cc nL own D cA A) (hdg : decode cc pc = .ok (.pop, 1)) (hc : v.category = 1) (kk : ol_W p l e R s m args below meth c D cA A Q nL ro I F cells slots (pc + 1) lv rest) : ol_W p l e R s m args below meth c D cA A Q nL ro I F cells slots pc lv (v :: rest) :=
  fun H locs ls hP hS hl => lv_pop C.1 C.2.1 hdg hc (kk H locs ls hP hS hl)
theorem ol_dup_x1 {v w : Value} (C : ol_Cx p s m args c cc nL own D cA A) (hdg : decode cc pc = .ok (.dup_x1, 1)) (hc : v.category = 1) (hd : w.category = 1) (kk : ol_W p l e R s m args below meth c D cA A Q nL ro I F cells slots (pc + 1) lv (v :: w :: v :: rest)) : ol_W p l e R s m args below meth c D cA A Q nL ro I F cells slots pc lv (v :: w :: rest) :=
  fun H locs ls hP hS hl => lv_dup_x1 C.1 C.2.1 hdg hc hd (kk H locs ls hP hS hl)
theorem ol_dup2 {v w : Value} (C : ol_Cx p s m args c cc nL own D cA A) (hdg : decode cc pc = .ok (.dup2, 1)) (hc : v.category = 1) (hd : w.category = 1) (kk : ol_W p l e R s m args below meth c D cA A Q nL ro I F cells slots (pc + 1) lv (v :: w :: v :: w :: rest)) : ol_W p l e R s m args below meth c D cA A Q nL ro I F cells slots pc lv (v :: w :: rest) :=
  fun H locs ls hP hS hl => lv_dup2_11 C.1 C.2.1 hdg hc hd (kk H locs ls hP hS hl)
theorem ol_dup_x2 {v w x : Value} (C : ol_Cx p s m args c cc nL own D cA A) (hdg : decode cc pc = .ok (.dup_x2, 1)) (hc : v.category = 1) (hd : w.category = 1) (he : x.category = 1) (kk : ol_W p l e R s m args below meth c D cA A Q nL ro I F cells slots (pc + 1) lv (v :: w :: x :: v :: rest)) : ol_W p l e R s m args below meth c D cA A Q nL ro I F cells slots pc lv (v :: w :: x :: rest) :=
  fun H locs ls hP hS hl => lv_dup_x2 C.1 C.2.1 hdg hc hd he (kk H locs ls hP hS hl)
theorem ol_goto {off : Int} {tgt : Nat} (C : ol_Cx p s m args c cc nL own D cA A) (hdg : decode cc pc = .ok (.goto off, 3)) (ht : (pc : Int) + off = (tgt : Int)) (kk : ol_W p l e R s m args below meth c D cA A Q nL ro I F cells slots tgt lv rest) : ol_W p l e R s m args below meth c D cA A Q nL ro I F cells slots pc lv rest :=
  fun H locs ls hP hS hl => lv_goto C.1 C.2.1 hdg ht (kk H locs ls hP hS hl)
theorem ol_table_out {dflt lo hi : Int} {offs : Array Int} {len : Nat} {x : Int32} {tgt : Nat} (C : ol_Cx p s m args c cc nL own D cA A) (hdg : decode cc pc = .ok (.tableswitch dflt lo hi offs, len)) (h : x.toInt < lo ∨ hi < x.toInt) (ht : (pc : Int) + dflt = (tgt : Int)) (kk : ol_W p l e R s m args below meth c D cA A Q nL ro I F cells slots tgt lv rest) : ol_W p l e R s m args below meth c D cA A Q nL ro I F cells slots pc lv (.int x :: rest) :=
  fun H locs ls hP hS hl => lv_tableOut C.1 C.2.1 hdg h ht (kk H locs ls hP hS hl)
theorem ol_table_in {dflt lo hi : Int} {offs : Array Int} {len : Nat} {x : Int32} {off : Int} {tgt : Nat} (C : ol_Cx p s m args c cc nL own D cA A) (hdg : decode cc pc = .ok (.tableswitch dflt lo hi offs, len)) (h1 : ¬ x.toInt < lo) (h2 : ¬ hi < x.toInt) (ho : offs[(x.toInt - lo).toNat]? = some off) (ht : (pc : Int) + off = (tgt : Int)) (kk : ol_W p l e R s m args below meth c D cA A Q nL ro I F cells slots tgt lv rest) : ol_W p l e R s m args below meth c D cA A Q nL ro I F cells slots pc lv (.int x :: rest) :=
  fun H locs ls hP hS hl => lv_tableIn C.1 C.2.1 hdg h1 h2 ho ht (kk H locs ls hP hS hl)
theorem ol_lookup {dflt : Int} {ps : Array (Int × Int)} {len : Nat} {x : Int32} {off : Int} {tgt : Nat} (C : ol_Cx p s m args c cc nL own D cA A) (hdg : decode cc pc = .ok (.lookupswitch dflt ps, len)) (hp : (ps.toList.zip (ps.toList.drop 1)).all (fun (a, next) => a.1 < next.1) = true) (ho : Op.lookupswitch.offset ps.toList dflt x.toInt = off) (ht : (pc : Int) + off = (tgt : Int)) (kk : ol_W p l e R s m args below meth c D cA A Q nL ro I F cells slots tgt lv rest) : ol_W p l e R s m args below meth c D cA A Q nL ro I F cells slots pc lv (.int x :: rest) :=
  fun H locs ls hP hS hl => lv_lookup C.1 C.2.1 hdg hp ho ht (kk H locs ls hP hS hl)
theorem ol_ifnull {r : Option Nat} {off : Int} {tgt : Nat} (C : ol_Cx p s m args c cc nL own D cA A) (hdg : decode cc pc = .ok (.ifnull off, 3)) (ht : (pc : Int) + off = (tgt : Int)) (kt : r = none → ol_W p l e R s m args below meth c D cA A Q nL ro I F cells slots tgt lv rest) (kf : ∀ a, r = some a → ol_W p l e R s m args below meth c D cA A Q nL ro I F cells slots (pc + 3) lv rest) : ol_W p l e R s m args below meth c D cA A Q nL ro I F cells slots pc lv (va_rf r :: rest) := by
  intro H locs ls hP hS hl
  cases r with
  | none => exact lv_ifnullN C.1 C.2.1 hdg ht (kt rfl H locs ls hP hS hl)
  | some a => exact lv_ifnull C.1 C.2.1 hdg (kf a rfl H locs ls hP hS hl)
theorem ol_ifnonnull {r : Option Nat} {off : Int} {tgt : Nat} (C : ol_Cx p s m args c cc nL own D cA A) (hdg : decode cc pc = .ok (.ifnonnull off, 3)) (ht : (pc : Int) + off = (tgt : Int)) (kt : ∀ a, r = some a → ol_W p l e R s m args below meth c D cA A Q nL ro I F cells slots tgt lv rest) (kf : r = none → ol_W p l e R s m args below meth c D cA A Q nL ro I F cells slots (pc + 3) lv rest) : ol_W p l e R s m args below meth c D cA A Q nL ro I F cells slots pc lv (va_rf r :: rest) := by
  intro H locs ls hP hS hl
  cases r with
  | none => exact lv_ifnonnullN C.1 C.2.1 hdg (kf rfl H locs ls hP hS hl)
  | some a => exact lv_ifnonnull C.1 C.2.1 hdg ht (kt a rfl H locs ls hP hS hl)
theorem ol_acmp_eq {rx ry : Option Nat} {off : Int} {tgt : Nat} (C : ol_Cx p s m args c cc nL own D cA A) (hdg : decode cc pc = .ok (.if_acmp .eq off, 3)) (ht : (pc : Int) + off = (tgt : Int)) (kt : rx = ry → ol_W p l e R s m args below meth c D cA A Q nL ro I F cells slots tgt lv rest) (kf : ¬ rx = ry → ol_W p l e R s m args below meth c D cA A Q nL ro I F cells slots (pc + 3) lv rest) : ol_W p l e R s m args below meth c D cA A Q nL ro I F cells slots pc lv (va_rf ry :: va_rf rx :: rest) :=
  fun H locs ls hP hS hl => lv_acmp_eq C.1 C.2.1 hdg ht (fun h => kt h H locs ls hP hS hl) (fun h => kf h H locs ls hP hS hl)
theorem ol_acmp_ne {rx ry : Option Nat} {off : Int} {tgt : Nat} (C : ol_Cx p s m args c cc nL own D cA A) (hdg : decode cc pc = .ok (.if_acmp .ne off, 3)) (ht : (pc : Int) + off = (tgt : Int)) (kt : ¬ rx = ry → ol_W p l e R s m args below meth c D cA A Q nL ro I F cells slots tgt lv rest) (kf : rx = ry → ol_W p l e R s m args below meth c D cA A Q nL ro I F cells slots (pc + 3) lv rest) : ol_W p l e R s m args below meth c D cA A Q nL ro I F cells slots pc lv (va_rf ry :: va_rf rx :: rest) :=
  fun H locs ls hP hS hl => lv_acmp_ne C.1 C.2.1 hdg ht (fun h => kt h H locs ls hP hS hl) (fun h => kf h H locs ls hP hS hl)
theorem ol_if_eq {x : Int32} {off : Int} {tgt : Nat} (C : ol_Cx p s m args c cc nL own D cA A) (hdg : decode cc pc = .ok (.ifCond .eq off, 3)) (ht : (pc : Int) + off = (tgt : Int)) (kt : x = 0 → ol_W p l e R s m args below meth c D cA A Q nL ro I F cells slots tgt lv rest) (kf : ¬ x = 0 → ol_W p l e R s m args below meth c D cA A Q nL ro I F cells slots (pc + 3) lv rest) : ol_W p l e R s m args below meth c D cA A Q nL ro I F cells slots pc lv (.int x :: rest) :=
  fun H locs ls hP hS hl => lv_if_eq C.1 C.2.1 hdg ht (fun h => kt h H locs ls hP hS hl) (fun h => kf h H locs ls hP hS hl)
theorem ol_icmp_eq {x y : Int32} {off : Int} {tgt : Nat} (C : ol_Cx p s m args c cc nL own D cA A) (hdg : decode cc pc = .ok (.if_icmp .eq off, 3)) (ht : (pc : Int) + off = (tgt : Int)) (kt : x = y → ol_W p l e R s m args below meth c D cA A Q nL ro I F cells slots tgt lv rest) (kf : ¬ x = y → ol_W p l e R s m args below meth c D cA A Q nL ro I F cells slots (pc + 3) lv rest) : ol_W p l e R s m args below meth c D cA A Q nL ro I F cells slots pc lv (.int y :: .int x :: rest) :=
  fun H locs ls hP hS hl => lv_icmp_eq C.1 C.2.1 hdg ht (fun h => kt h H locs ls hP hS hl) (fun h => kf h H locs ls hP hS hl)
theorem ol_if_ne {x : Int32} {off : Int} {tgt : Nat} (C : ol_Cx p s m args c cc nL own D cA A) (hdg : decode cc pc = .ok (.ifCond .ne off, 3)) (ht : (pc : Int) + off = (tgt : Int)) (kt : ¬ x = 0 → ol_W p l e R s m args below meth c D cA A Q nL ro I F cells slots tgt lv rest) (kf : x = 0 → ol_W p l e R s m args below meth c D cA A Q nL ro I F cells slots (pc + 3) lv rest) : ol_W p l e R s m args below meth c D cA A Q nL ro I F cells slots pc lv (.int x :: rest) :=
  fun H locs ls hP hS hl => lv_if_ne C.1 C.2.1 hdg ht (fun h => kt h H locs ls hP hS hl) (fun h => kf h H locs ls hP hS hl)
theorem ol_icmp_ne {x y : Int32} {off : Int} {tgt : Nat} (C : ol_Cx p s m args c cc nL own D cA A) (hdg : decode cc pc = .ok (.if_icmp .ne off, 3)) (ht : (pc : Int) + off = (tgt : Int)) (kt : ¬ x = y → ol_W p l e R s m args below meth c D cA A Q nL ro I F cells slots tgt lv rest) (kf : x = y → ol_W p l e R s m args below meth c D cA A Q nL ro I F cells slots (pc + 3) lv rest) : ol_W p l e R s m args below meth c D cA A Q nL ro I F cells slots pc lv (.int y :: .int x :: rest) :=
  fun H locs ls hP hS hl => lv_icmp_ne C.1 C.2.1 hdg ht (fun h => kt h H locs ls hP hS hl) (fun h => kf h H locs ls hP hS hl)
theorem ol_if_lt {x : Int32} {off : Int} {tgt : Nat} (C : ol_Cx p s m args c cc nL own D cA A) (hdg : decode cc pc = .ok (.ifCond .lt off, 3)) (ht : (pc : Int) + off = (tgt : Int)) (kt : x < 0 → ol_W p l e R s m args below meth c D cA A Q nL ro I F cells slots tgt lv rest) (kf : ¬ x < 0 → ol_W p l e R s m args below meth c D cA A Q nL ro I F cells slots (pc + 3) lv rest) : ol_W p l e R s m args below meth c D cA A Q nL ro I F cells slots pc lv (.int x :: rest) :=
  fun H locs ls hP hS hl => lv_if_lt C.1 C.2.1 hdg ht (fun h => kt h H locs ls hP hS hl) (fun h => kf h H locs ls hP hS hl)
theorem ol_icmp_lt {x y : Int32} {off : Int} {tgt : Nat} (C : ol_Cx p s m args c cc nL own D cA A) (hdg : decode cc pc = .ok (.if_icmp .lt off, 3)) (ht : (pc : Int) + off = (tgt : Int)) (kt : x < y → ol_W p l e R s m args below meth c D cA A Q nL ro I F cells slots tgt lv rest) (kf : ¬ x < y → ol_W p l e R s m args below meth c D cA A Q nL ro I F cells slots (pc + 3) lv rest) : ol_W p l e R s m args below meth c D cA A Q nL ro I F cells slots pc lv (.int y :: .int x :: rest) :=
  fun H locs ls hP hS hl => lv_icmp_lt C.1 C.2.1 hdg ht (fun h => kt h H locs ls hP hS hl) (fun h => kf h H locs ls hP hS hl)
theorem ol_if_ge {x : Int32} {off : Int} {tgt : Nat} (C : ol_Cx p s m args c cc nL own D cA A) (hdg : decode cc pc = .ok (.ifCond .ge off, 3)) (ht : (pc : Int) + off = (tgt : Int)) (kt : 0 ≤ x → ol_W p l e R s m args below meth c D cA A Q nL ro I F cells slots tgt lv rest) (kf : ¬ 0 ≤ x → ol_W p l e R s m args below meth c D cA A Q nL ro I F cells slots (pc + 3) lv rest) : ol_W p l e R s m args below meth c D cA A Q nL ro I F cells slots pc lv (.int x :: rest) :=
  fun H locs ls hP hS hl => lv_if_ge C.1 C.2.1 hdg ht (fun h => kt h H locs ls hP hS hl) (fun h => kf h H locs ls hP hS hl)
theorem ol_icmp_ge {x y : Int32} {off : Int} {tgt : Nat} (C : ol_Cx p s m args c cc nL own D cA A) (hdg : decode cc pc = .ok (.if_icmp .ge off, 3)) (ht : (pc : Int) + off = (tgt : Int)) (kt : y ≤ x → ol_W p l e R s m args below meth c D cA A Q nL ro I F cells slots tgt lv rest) (kf : ¬ y ≤ x → ol_W p l e R s m args below meth c D cA A Q nL ro I F cells slots (pc + 3) lv rest) : ol_W p l e R s m args below meth c D cA A Q nL ro I F cells slots pc lv (.int y :: .int x :: rest) :=
  fun H locs ls hP hS hl => lv_icmp_ge C.1 C.2.1 hdg ht (fun h => kt h H locs ls hP hS hl) (fun h => kf h H locs ls hP hS hl)
theorem ol_if_gt {x : Int32} {off : Int} {tgt : Nat} (C : ol_Cx p s m args c cc nL own D cA A) (hdg : decode cc pc = .ok (.ifCond .gt off, 3)) (ht : (pc : Int) + off = (tgt : Int)) (kt : 0 < x → ol_W p l e R s m args below meth c D cA A Q nL ro I F cells slots tgt lv rest) (kf : ¬ 0 < x → ol_W p l e R s m args below meth c D cA A Q nL ro I F cells slots (pc + 3) lv rest) : ol_W p l e R s m args below meth c D cA A Q nL ro I F cells slots pc lv (.int x :: rest) :=
  fun H locs ls hP hS hl => lv_if_gt C.1 C.2.1 hdg ht (fun h => kt h H locs ls hP hS hl) (fun h => kf h H locs ls hP hS hl)
theorem ol_icmp_gt {x y : Int32} {off : Int} {tgt : Nat} (C : ol_Cx p s m args c cc nL own D cA A) (hdg : decode cc pc = .ok (.if_icmp .gt off, 3)) (ht : (pc : Int) + off = (tgt : Int)) (kt : y < x → ol_W p l e R s m args below meth c D cA A Q nL ro I F cells slots tgt lv rest) (kf : ¬ y < x → ol_W p l e R s m args below meth c D cA A Q nL ro I F cells slots (pc + 3) lv rest) : ol_W p l e R s m args below meth c D cA A Q nL ro I F cells slots pc lv (.int y :: .int x :: rest) :=
  fun H locs ls hP hS hl => lv_icmp_gt C.1 C.2.1 hdg ht (fun h => kt h H locs ls hP hS hl) (fun h => kf h H locs ls hP hS hl)
theorem ol_if_le {x : Int32} {off : Int} {tgt : Nat} (C : ol_Cx p s m args c cc nL own D cA A) (hdg : decode cc pc = .ok (.ifCond .le off, 3)) (ht : (pc : Int) + off = (tgt : Int)) (kt : x ≤ 0 → ol_W p l e R s m args below meth c D cA A Q nL ro I F cells slots tgt lv rest) (kf : ¬ x ≤ 0 → ol_W p l e R s m args below meth c D cA A Q nL ro I F cells slots (pc + 3) lv rest) : ol_W p l e R s m args below meth c D cA A Q nL ro I F cells slots pc lv (.int x :: rest) :=
  fun H locs ls hP hS hl => lv_if_le C.1 C.2.1 hdg ht (fun h => kt h H locs ls hP hS hl) (fun h => kf h H locs ls hP hS hl)
theorem ol_icmp_le {x y : Int32} {off : Int} {tgt : Nat} (C : ol_Cx p s m args c cc nL own D cA A) (hdg : decode cc pc = .ok (.if_icmp .le off, 3)) (ht : (pc : Int) + off = (tgt : Int)) (kt : x ≤ y → ol_W p l e R s m args below meth c D cA A Q nL ro I F cells slots tgt lv rest) (kf : ¬ x ≤ y → ol_W p l e R s m args below meth c D cA A Q nL ro I F cells slots (pc + 3) lv rest) : ol_W p l e R s m args below meth c D cA A Q nL ro I F cells slots pc lv (.int y :: .int x :: rest) :=
  fun H locs ls hP hS hl => lv_icmp_le C.1 C.2.1 hdg ht (fun h => kt h H locs ls hP hS hl) (fun h => kf h H locs ls hP hS hl)
/-! the heap -/
theorem ol_fd_spec {ci k : Nat} {x : String × String × String × Bool} (h : ol_fd ci k = some x) : ∃ q : vw_C, ol_cl[ci]? = some q ∧ k < q.2.2 ∧ q.2.1 k = x := by
  unfold ol_fd at h
  cases hc : ol_cl[ci]? with
  | none => rw [hc] at h; cases h
  | some q =>
    rw [hc] at h
    simp only [Option.bind_some] at h
    split at h
    · exact ⟨q, rfl, by assumption, Option.some.inj h⟩
    · cases h
theorem ol_sm {own ref dc nm ds : String} (C : ol_Cx p s m args c cc nL own D cA A) (h : ref = dc ∨ Cond.sameField ref dc nm ds ∈ ol_all) : ∀ x, s.fieldFound? dc nm ds = some x → s.fieldFound? ref nm ds = some x := by
  rcases h with rfl | h
  · exact fun _ h => h
  · exact fun x hx => u_same (C.2.2.2.2.1 _ h) x hx
theorem ol_cf_obj {a ci : Nat} (hr : ol_ct (ro a) = .inl ci) : ol_cf cA ro I F a = .inr (ci, ol_fv (ol_fk ci) 0 (I a) (F a)) := by
  unfold ol_cf
  rw [hr]
  rfl
theorem ol_cf_ints {a t n : Nat} (hr : ol_ct (ro a) = .inr (t, n)) (ht : ol_ar t = false) : ol_cf cA ro I F a = .inl (cA t, n, .inl (I a)) := by
  unfold ol_cf
  rw [hr]
  show Sum.inl (cA t, n, if ol_ar t = true then _ else _) = _
  rw [ht, if_neg (by decide)]
theorem ol_cf_refs {a t n : Nat} (hr : ol_ct (ro a) = .inr (t, n)) (ht : ol_ar t = true) : ol_cf cA ro I F a = .inl (cA t, n, .inr (.inr (.inr (.inr (F a))))) := by
  unfold ol_cf
  rw [hr]
  show Sum.inl (cA t, n, if ol_ar t = true then _ else _) = _
  rw [if_pos ht]
theorem ol_getI {a ci k index : Nat} {ref dc nm ds : String} {fin : Bool} (C : ol_Cx p s m args c cc nL own D cA A) (h0 : ro a ≠ 0) (hr : ol_ct (ro a) = .inl ci) (hfd : ol_fd ci k = some (dc, nm, ds, fin)) (hk : (ol_fk ci)[k]? = some false) (hlink : Cond.fieldLink own index ref nm ds ∈ ol_all) (hsm : ref = dc ∨ Cond.sameField ref dc nm ds ∈ ol_all) (hdg : decode cc pc = .ok (.getfield index, 3)) (kk : ol_W p l e R s m args below meth c D cA A Q nL ro I F cells slots (pc + 3) lv (.int (I a k) :: rest)) : ol_W p l e R s m args below meth c D cA A Q nL ro I F cells slots pc lv (.ref a :: rest) := by
  intro H locs ls hP hS hl
  obtain ⟨L, h1, h2, h3⟩ := id hP
  obtain ⟨j, hj⟩ := ol_pl_get (f := ol_cf cA ro I F) ((h1 a).mpr h0)
  rw [ol_cf_obj hr] at hj
  obtain ⟨q, g1, g2, g3⟩ := ol_fd_spec hfd
  have hv := ol_fv_get (ol_fk ci) 0 k (I a) (F a) false hk
  rw [if_neg (by decide), Nat.zero_add] at hv
  exact va_get (ref := ref) C.1 C.2.1 C.2.2.2.2.1 (ol_cl_ws ci q g1) C.2.2.2.1 C.2.2.2.2.2.1.1 h2 j hj g1 k g2 (by rw [g3]; exact C.2.2.2.2.1 _ hlink) (by rw [g3]; exact ol_sm C hsm) hv hdg (kk H locs ls hP hS hl)
theorem ol_getR {a ci k index : Nat} {ref dc nm ds : String} {fin : Bool} (C : ol_Cx p s m args c cc nL own D cA A) (h0 : ro a ≠ 0) (hr : ol_ct (ro a) = .inl ci) (hfd : ol_fd ci k = some (dc, nm, ds, fin)) (hk : (ol_fk ci)[k]? = some true) (hlink : Cond.fieldLink own index ref nm ds ∈ ol_all) (hsm : ref = dc ∨ Cond.sameField ref dc nm ds ∈ ol_all) (hdg : decode cc pc = .ok (.getfield index, 3)) (kk : ol_W p l e R s m args below meth c D cA A Q nL ro I F cells slots (pc + 3) lv (va_rf (F a k) :: rest)) : ol_W p l e R s m args below meth c D cA A Q nL ro I F cells slots pc lv (.ref a :: rest) := by
  intro H locs ls hP hS hl
  obtain ⟨L, h1, h2, h3⟩ := id hP
  obtain ⟨j, hj⟩ := ol_pl_get (f := ol_cf cA ro I F) ((h1 a).mpr h0)
  rw [ol_cf_obj hr] at hj
  obtain ⟨q, g1, g2, g3⟩ := ol_fd_spec hfd
  have hv := ol_fv_get (ol_fk ci) 0 k (I a) (F a) true hk
  rw [if_pos rfl, Nat.zero_add] at hv
  exact va_get (ref := ref) C.1 C.2.1 C.2.2.2.2.1 (ol_cl_ws ci q g1) C.2.2.2.1 C.2.2.2.2.2.1.1 h2 j hj g1 k g2 (by rw [g3]; exact C.2.2.2.2.1 _ hlink) (by rw [g3]; exact ol_sm C hsm) hv hdg (kk H locs ls hP hS hl)
theorem ol_getIN {a ci k index : Nat} {ref dc nm ds host : String} {fin : Bool} (C : ol_Cx p s m args c cc nL own D cA A) (h0 : ro a ≠ 0) (hr : ol_ct (ro a) = .inl ci) (hfd : ol_fd ci k = some (dc, nm, ds, fin)) (hk : (ol_fk ci)[k]? = some false) (hlink : Cond.fieldLinkNest own index ref nm ds host ∈ ol_n1) (hsm : ref = dc ∨ Cond.sameField ref dc nm ds ∈ ol_all) (hdg : decode cc pc = .ok (.getfield index, 3)) (kk : ol_W p l e R s m args below meth c D cA A Q nL ro I F cells slots (pc + 3) lv (.int (I a k) :: rest)) : ol_W p l e R s m args below meth c D cA A Q nL ro I F cells slots pc lv (.ref a :: rest) := by
  intro H locs ls hP hS hl
  obtain ⟨L, h1, h2, h3⟩ := id hP
  obtain ⟨j, hj⟩ := ol_pl_get (f := ol_cf cA ro I F) ((h1 a).mpr h0)
  rw [ol_cf_obj hr] at hj
  obtain ⟨q, g1, g2, g3⟩ := ol_fd_spec hfd
  have hv := ol_fv_get (ol_fk ci) 0 k (I a) (F a) false hk
  rw [if_neg (by decide), Nat.zero_add] at hv
  exact va_getN (ref := ref) (host := host) C.1 C.2.1 C.2.2.2.2.1 (ol_cl_ws ci q g1) C.2.2.2.1 C.2.2.2.2.2.1.1 h2 j hj g1 k g2 (by rw [g3]; exact va_Nw.use rfl (C.2.2.2.2.2.1.2.1 _ hlink)) (by rw [g3]; exact ol_sm C hsm) hv hdg (kk H locs ls hP hS hl)
theorem ol_getRN {a ci k index : Nat} {ref dc nm ds host : String} {fin : Bool} (C : ol_Cx p s m args c cc nL own D cA A) (h0 : ro a ≠ 0) (hr : ol_ct (ro a) = .inl ci) (hfd : ol_fd ci k = some (dc, nm, ds, fin)) (hk : (ol_fk ci)[k]? = some true) (hlink : Cond.fieldLinkNest own index ref nm ds host ∈ ol_n1) (hsm : ref = dc ∨ Cond.sameField ref dc nm ds ∈ ol_all) (hdg : decode cc pc = .ok (.getfield index, 3)) (kk : ol_W p l e R s m args below meth c D cA A Q nL ro I F cells slots (pc + 3) lv (va_rf (F a k) :: rest)) : ol_W p l e R s m args below meth c D cA A Q nL ro I F cells slots pc lv (.ref a :: rest) := by
  intro H locs ls hP hS hl
  obtain ⟨L, h1, h2, h3⟩ := id hP
  obtain ⟨j, hj⟩ := ol_pl_get (f := ol_cf cA ro I F) ((h1 a).mpr h0)
  rw [ol_cf_obj hr] at hj
  obtain ⟨q, g1, g2, g3⟩ := ol_fd_spec hfd
  have hv := ol_fv_get (ol_fk ci) 0 k (I a) (F a) true hk
  rw [if_pos rfl, Nat.zero_add] at hv
  exact va_getN (ref := ref) (host := host) C.1 C.2.1 C.2.2.2.2.1 (ol_cl_ws ci q g1) C.2.2.2.1 C.2.2.2.2.2.1.1 h2 j hj g1 k g2 (by rw [g3]; exact va_Nw.use rfl (C.2.2.2.2.2.1.2.1 _ hlink)) (by rw [g3]; exact ol_sm C hsm) hv hdg (kk H locs ls hP hS hl)
theorem ol_lenfv {ci k : Nat} {b : Bool} (I0 : Nat → Int32) (F0' : Nat → Option Nat) (hk : (ol_fk ci)[k]? = some b) : k < (ol_fv (ol_fk ci) 0 I0 F0').length := by
  rw [ol_fv_len]
  exact (List.getElem?_eq_some_iff.mp hk).1
theorem ol_putI {a ci k index : Nat} {ref dc nm ds : String} {v : Int32} (C : ol_Cx p s m args c cc nL own D cA A) (h0 : ro a ≠ 0) (hr : ol_ct (ro a) = .inl ci) (hfd : ol_fd ci k = some (dc, nm, ds, false)) (hk : (ol_fk ci)[k]? = some false) (hlink : Cond.fieldLink own index ref nm ds ∈ ol_all) (hsm : ref = dc ∨ Cond.sameField ref dc nm ds ∈ ol_all) (hn : narrow (ol_ty ci k) (.int v) = .int v) (hfit : fits (ol_ty ci k) (.int v) = true) (hdg : decode cc pc = .ok (.putfield index, 3)) (kk : ol_W p l e R s m args below meth c D cA A Q nL ro (ol_u2 I a k v) F cells slots (pc + 3) lv rest) : ol_W p l e R s m args below meth c D cA A Q nL ro I F cells slots pc lv (.int v :: .ref a :: rest) := by
  intro H locs ls hP hS hl
  obtain ⟨L, h1, h2, h3⟩ := id hP
  obtain ⟨j, hj⟩ := ol_pl_get (f := ol_cf cA ro I F) ((h1 a).mpr h0)
  have hj0 := hj
  rw [ol_cf_obj hr] at hj
  obtain ⟨q, g1, g2, g3⟩ := ol_fd_spec hfd
  refine va_put (ref := ref) C.1 C.2.1 C.2.2.2.2.1 (ol_cl_ws ci q g1) (ol_ty ci) (ol_cl_ty ci q g1) (ol_cl_nm ci q g1) C.2.2.2.1 C.2.2.2.2.2.1.1 h2 h3 hS j hj g1 k g2 (by rw [g3]; exact C.2.2.2.2.1 _ hlink) (by rw [g3]; exact ol_sm C hsm) (by rw [g3]) (ol_cl_ty ci q g1 k g2) hn hfit (ol_lenfv _ _ hk) hdg (fun H1 locs1 hP1 hD1 hS1 => ?_)
  exact kk H1 locs1 ls (ol_set (I' := ol_u2 I a k v) (F' := F) h1 h3 ((h1 a).mpr h0) hj0 (by rw [hr, ol_fv_setI _ _ _ _ _ hk]; unfold ol_u2; rw [va_up_self]; rfl) (fun b hb => ol_u2_a I v hb) (fun _ _ => rfl) hP1 hD1) hS1 hl
theorem ol_putR {a ci k index : Nat} {ref dc nm ds : String} {r : Option Nat} {v : Value} (C : ol_Cx p s m args c cc nL own D cA A) (hv : v = va_rf r) (h0 : ro a ≠ 0) (hr : ol_ct (ro a) = .inl ci) (hfd : ol_fd ci k = some (dc, nm, ds, false)) (hk : (ol_fk ci)[k]? = some true) (hlink : Cond.fieldLink own index ref nm ds ∈ ol_all) (hsm : ref = dc ∨ Cond.sameField ref dc nm ds ∈ ol_all) (hn : narrow (ol_ty ci k) (va_rf r) = va_rf r) (hfit : fits (ol_ty ci k) (va_rf r) = true) (hdg : decode cc pc = .ok (.putfield index, 3)) (kk : ol_W p l e R s m args below meth c D cA A Q nL ro I (ol_u2 F a k r) cells slots (pc + 3) lv rest) : ol_W p l e R s m args below meth c D cA A Q nL ro I F cells slots pc lv (v :: .ref a :: rest) := by
  intro H locs ls hP hS hl
  subst hv
  obtain ⟨L, h1, h2, h3⟩ := id hP
  obtain ⟨j, hj⟩ := ol_pl_get (f := ol_cf cA ro I F) ((h1 a).mpr h0)
  have hj0 := hj
  rw [ol_cf_obj hr] at hj
  obtain ⟨q, g1, g2, g3⟩ := ol_fd_spec hfd
  refine va_put (ref := ref) C.1 C.2.1 C.2.2.2.2.1 (ol_cl_ws ci q g1) (ol_ty ci) (ol_cl_ty ci q g1) (ol_cl_nm ci q g1) C.2.2.2.1 C.2.2.2.2.2.1.1 h2 h3 hS j hj g1 k g2 (by rw [g3]; exact C.2.2.2.2.1 _ hlink) (by rw [g3]; exact ol_sm C hsm) (by rw [g3]) (ol_cl_ty ci q g1 k g2) hn hfit (ol_lenfv _ _ hk) hdg (fun H1 locs1 hP1 hD1 hS1 => ?_)
  exact kk H1 locs1 ls (ol_set (I' := I) (F' := ol_u2 F a k r) h1 h3 ((h1 a).mpr h0) hj0 (by rw [hr, ol_fv_setF _ _ _ _ _ hk]; unfold ol_u2; rw [va_up_self]; rfl) (fun _ _ => rfl) (fun b hb => ol_u2_a F r hb) hP1 hD1) hS1 hl
theorem ol_putIF {a ci k index : Nat} {ref dc nm ds : String} {v : Int32} (C : ol_Cx p s m args c cc nL own D cA A) (h0 : ro a ≠ 0) (hr : ol_ct (ro a) = .inl ci) (hfd : ol_fd ci k = some (dc, nm, ds, true)) (hk : (ol_fk ci)[k]? = some false) (hlink : Cond.fieldLink own index ref nm ds ∈ ol_all) (hsm : ref = dc ∨ Cond.sameField ref dc nm ds ∈ ol_all) (hin : meth.name = "<init>") (hdc : dc = own) (hn : narrow (ol_ty ci k) (.int v) = .int v) (hfit : fits (ol_ty ci k) (.int v) = true) (hdg : decode cc pc = .ok (.putfield index, 3)) (kk : ol_W p l e R s m args below meth c D cA A Q nL ro (ol_u2 I a k v) F cells slots (pc + 3) lv rest) : ol_W p l e R s m args below meth c D cA A Q nL ro I F cells slots pc lv (.int v :: .ref a :: rest) := by
  intro H locs ls hP hS hl
  obtain ⟨L, h1, h2, h3⟩ := id hP
  obtain ⟨j, hj⟩ := ol_pl_get (f := ol_cf cA ro I F) ((h1 a).mpr h0)
  have hj0 := hj
  rw [ol_cf_obj hr] at hj
  obtain ⟨q, g1, g2, g3⟩ := ol_fd_spec hfd
  refine va_putF (ref := ref) C.1 C.2.1 C.2.2.2.2.1 (ol_cl_ws ci q g1) (ol_ty ci) (ol_cl_ty ci q g1) (ol_cl_nm ci q g1) C.2.2.2.1 C.2.2.2.2.2.1.1 h2 h3 hS j hj g1 k g2 (by rw [g3]; exact C.2.2.2.2.1 _ hlink) (by rw [g3]; exact ol_sm C hsm) (by rw [g3]) hin (by rw [g3]; exact hdc) (ol_cl_ty ci q g1 k g2) hn hfit (ol_lenfv _ _ hk) hdg (fun H1 locs1 hP1 hD1 hS1 => ?_)
  exact kk H1 locs1 ls (ol_set (I' := ol_u2 I a k v) (F' := F) h1 h3 ((h1 a).mpr h0) hj0 (by rw [hr, ol_fv_setI _ _ _ _ _ hk]; unfold ol_u2; rw [va_up_self]; rfl) (fun b hb => ol_u2_a I v hb) (fun _ _ => rfl) hP1 hD1) hS1 hl
theorem ol_putRF {a ci k index : Nat} {ref dc nm ds : String} {r : Option Nat} {v : Value} (C : ol_Cx p s m args c cc nL own D cA A) (hv : v = va_rf r) (h0 : ro a ≠ 0) (hr : ol_ct (ro a) = .inl ci) (hfd : ol_fd ci k = some (dc, nm, ds, true)) (hk : (ol_fk ci)[k]? = some true) (hlink : Cond.fieldLink own index ref nm ds ∈ ol_all) (hsm : ref = dc ∨ Cond.sameField ref dc nm ds ∈ ol_all) (hin : meth.name = "<init>") (hdc : dc = own) (hn : narrow (ol_ty ci k) (va_rf r) = va_rf r) (hfit : fits (ol_ty ci k) (va_rf r) = true) (hdg : decode cc pc = .ok (.putfield index, 3)) (kk : ol_W p l e R s m args below meth c D cA A Q nL ro I (ol_u2 F a k r) cells slots (pc + 3) lv rest) : ol_W p l e R s m args below meth c D cA A Q nL ro I F cells slots pc lv (v :: .ref a :: rest) := by
  intro H locs ls hP hS hl
  subst hv
  obtain ⟨L, h1, h2, h3⟩ := id hP
  obtain ⟨j, hj⟩ := ol_pl_get (f := ol_cf cA ro I F) ((h1 a).mpr h0)
  have hj0 := hj
  rw [ol_cf_obj hr] at hj
  obtain ⟨q, g1, g2, g3⟩ := ol_fd_spec hfd
  refine va_putF (ref := ref) C.1 C.2.1 C.2.2.2.2.1 (ol_cl_ws ci q g1) (ol_ty ci) (ol_cl_ty ci q g1) (ol_cl_nm ci q g1) C.2.2.2.1 C.2.2.2.2.2.1.1 h2 h3 hS j hj g1 k g2 (by rw [g3]; exact C.2.2.2.2.1 _ hlink) (by rw [g3]; exact ol_sm C hsm) (by rw [g3]) hin (by rw [g3]; exact hdc) (ol_cl_ty ci q g1 k g2) hn hfit (ol_lenfv _ _ hk) hdg (fun H1 locs1 hP1 hD1 hS1 => ?_)
  exact kk H1 locs1 ls (ol_set (I' := I) (F' := ol_u2 F a k r) h1 h3 ((h1 a).mpr h0) hj0 (by rw [hr, ol_fv_setF _ _ _ _ _ hk]; unfold ol_u2; rw [va_up_self]; rfl) (fun _ _ => rfl) (fun b hb => ol_u2_a F r hb) hP1 hD1) hS1 hl
theorem ol_iald {a n : Nat} {i : Int32} (C : ol_Cx p s m args c cc nL own D cA A) (h0 : ro a ≠ 0) (hr : ol_ct (ro a) = .inr (0, n)) (hin : vp_in i n) (hdg : decode cc pc = .ok (.iaload, 1)) (kk : ol_W p l e R s m args below meth c D cA A Q nL ro I F cells slots (pc + 1) lv (.int (I a i.toNatClampNeg) :: rest)) : ol_W p l e R s m args below meth c D cA A Q nL ro I F cells slots pc lv (.int i :: .ref a :: rest) := by
  intro H locs ls hP hS hl
  obtain ⟨L, h1, h2, h3⟩ := id hP
  obtain ⟨j, hj⟩ := ol_pl_get (f := ol_cf cA ro I F) ((h1 a).mpr h0)
  rw [ol_cf_ints hr rfl] at hj
  exact va_iald C.1 C.2.1 C.2.2.2.2.2.1.1 h2 j 0 hj rfl hin hdg (kk H locs ls hP hS hl)
theorem ol_zald {a n : Nat} {i : Int32} (C : ol_Cx p s m args c cc nL own D cA A) (h0 : ro a ≠ 0) (hr : ol_ct (ro a) = .inr (1, n)) (hin : vp_in i n) (hdg : decode cc pc = .ok (.baload, 1)) (kk : ol_W p l e R s m args below meth c D cA A Q nL ro I F cells slots (pc + 1) lv (.int (I a i.toNatClampNeg) :: rest)) : ol_W p l e R s m args below meth c D cA A Q nL ro I F cells slots pc lv (.int i :: .ref a :: rest) := by
  intro H locs ls hP hS hl
  obtain ⟨L, h1, h2, h3⟩ := id hP
  obtain ⟨j, hj⟩ := ol_pl_get (f := ol_cf cA ro I F) ((h1 a).mpr h0)
  rw [ol_cf_ints hr rfl] at hj
  exact va_zald C.1 C.2.1 C.2.2.2.2.2.1.1 h2 j 1 hj rfl hin hdg (kk H locs ls hP hS hl)
theorem ol_aald {a n t : Nat} {i : Int32} {cn : String} (C : ol_Cx p s m args c cc nL own D cA A) (h0 : ro a ≠ 0) (hr : ol_ct (ro a) = .inr (t, n)) (ht : ol_ar t = true) (htt : (ol_tys cA)[t]? = some (cA t, .object cn)) (hin : vp_in i n) (hdg : decode cc pc = .ok (.aaload, 1)) (kk : ol_W p l e R s m args below meth c D cA A Q nL ro I F cells slots (pc + 1) lv (va_rf (F a i.toNatClampNeg) :: rest)) : ol_W p l e R s m args below meth c D cA A Q nL ro I F cells slots pc lv (.int i :: .ref a :: rest) := by
  intro H locs ls hP hS hl
  obtain ⟨L, h1, h2, h3⟩ := id hP
  obtain ⟨j, hj⟩ := ol_pl_get (f := ol_cf cA ro I F) ((h1 a).mpr h0)
  rw [ol_cf_refs hr ht] at hj
  exact va_aldq C.1 C.2.1 C.2.2.2.2.2.1.1 h2 j t hj htt hin hdg (kk H locs ls hP hS hl)
theorem ol_alen {a n t : Nat} {v : Int32} {ty : FieldType} (C : ol_Cx p s m args c cc nL own D cA A) (h0 : ro a ≠ 0) (hr : ol_ct (ro a) = .inr (t, n)) (htt : (ol_tys cA)[t]? = some (cA t, ty)) (hv : Int32.ofNat n = v) (hdg : decode cc pc = .ok (.arraylength, 1)) (kk : ol_W p l e R s m args below meth c D cA A Q nL ro I F cells slots (pc + 1) lv (.int v :: rest)) : ol_W p l e R s m args below meth c D cA A Q nL ro I F cells slots pc lv (.ref a :: rest) := by
  intro H locs ls hP hS hl
  obtain ⟨L, h1, h2, h3⟩ := id hP
  obtain ⟨j, hj⟩ := ol_pl_get (f := ol_cf cA ro I F) ((h1 a).mpr h0)
  cases ht : ol_ar t with
  | true =>
    rw [ol_cf_refs hr ht] at hj
    exact va_alen C.1 C.2.1 C.2.2.2.2.2.1.1 h2 j t hj htt hv hdg (kk H locs ls hP hS hl)
  | false =>
    rw [ol_cf_ints hr ht] at hj
    exact va_alen C.1 C.2.1 C.2.2.2.2.2.1.1 h2 j t hj htt hv hdg (kk H locs ls hP hS hl)
theorem ol_upd (f : Nat → Int32) (k : Nat) (x : Int32) : upd f k x = va_up f k x := by
  funext j
  rfl
theorem ol_iast {a n : Nat} {i x : Int32} (C : ol_Cx p s m args c cc nL own D cA A) (h0 : ro a ≠ 0) (hr : ol_ct (ro a) = .inr (0, n)) (hin : vp_in i n) (hdg : decode cc pc = .ok (.iastore, 1)) (kk : ol_W p l e R s m args below meth c D cA A Q nL ro (ol_u2 I a i.toNatClampNeg x) F cells slots (pc + 1) lv rest) : ol_W p l e R s m args below meth c D cA A Q nL ro I F cells slots pc lv (.int x :: .int i :: .ref a :: rest) := by
  intro H locs ls hP hS hl
  obtain ⟨L, h1, h2, h3⟩ := id hP
  obtain ⟨j, hj⟩ := ol_pl_get (f := ol_cf cA ro I F) ((h1 a).mpr h0)
  have hj0 := hj
  rw [ol_cf_ints hr rfl] at hj
  refine va_iast C.1 C.2.1 C.2.2.2.2.2.1.1 h2 h3 hS j 0 hj rfl hin hdg (fun H1 locs1 hP1 hD1 hS1 => ?_)
  exact kk H1 locs1 ls (ol_set (I' := ol_u2 I a i.toNatClampNeg x) (F' := F) h1 h3 ((h1 a).mpr h0) hj0 (by rw [hr]; unfold ol_u2; rw [va_up_self, ol_upd]; rfl) (fun b hb => ol_u2_a I x hb) (fun _ _ => rfl) hP1 hD1) hS1 hl
theorem ol_zast {a n : Nat} {i x : Int32} (C : ol_Cx p s m args c cc nL own D cA A) (h0 : ro a ≠ 0) (hr : ol_ct (ro a) = .inr (1, n)) (hin : vp_in i n) (hx : vp_nar .boolean x = x) (hdg : decode cc pc = .ok (.bastore, 1)) (kk : ol_W p l e R s m args below meth c D cA A Q nL ro (ol_u2 I a i.toNatClampNeg x) F cells slots (pc + 1) lv rest) : ol_W p l e R s m args below meth c D cA A Q nL ro I F cells slots pc lv (.int x :: .int i :: .ref a :: rest) := by
  intro H locs ls hP hS hl
  obtain ⟨L, h1, h2, h3⟩ := id hP
  obtain ⟨j, hj⟩ := ol_pl_get (f := ol_cf cA ro I F) ((h1 a).mpr h0)
  have hj0 := hj
  rw [ol_cf_ints hr rfl] at hj
  refine va_zast C.1 C.2.1 C.2.2.2.2.2.1.1 h2 h3 hS j 1 hj rfl hin hdg (fun H1 locs1 hP1 hD1 hS1 => ?_)
  exact kk H1 locs1 ls (ol_set (I' := ol_u2 I a i.toNatClampNeg x) (F' := F) h1 h3 ((h1 a).mpr h0) hj0 (by rw [hr, hx]; unfold ol_u2; rw [va_up_self, ol_upd]; rfl) (fun b hb => ol_u2_a I x hb) (fun _ _ => rfl) hP1 hD1) hS1 hl
/-- a reference is stored: an object of a class that may stand there, or none -/
theorem ol_aast {a n t : Nat} {i : Int32} {cn : String} {r : Option Nat} {v : Value} (C : ol_Cx p s m args c cc nL own D cA A) (hv : v = va_rf r) (h0 : ro a ≠ 0) (hr : ol_ct (ro a) = .inr (t, n)) (ht : ol_ar t = true) (htt : (ol_tys cA)[t]? = some (cA t, .object cn)) (hin : vp_in i n) (hc : ∀ b, r = some b → ro b ≠ 0 ∧ ∃ ci q, ol_ct (ro b) = .inl ci ∧ ol_cl[ci]? = some q ∧ Cond.castable q.1 cn ∈ ol_n1) (hdg : decode cc pc = .ok (.aastore, 1)) (kk : ol_W p l e R s m args below meth c D cA A Q nL ro I (ol_u2 F a i.toNatClampNeg r) cells slots (pc + 1) lv rest) : ol_W p l e R s m args below meth c D cA A Q nL ro I F cells slots pc lv (v :: .int i :: .ref a :: rest) := by
  intro H locs ls hP hS hl
  subst hv
  obtain ⟨L, h1, h2, h3⟩ := id hP
  obtain ⟨j, hj⟩ := ol_pl_get (f := ol_cf cA ro I F) ((h1 a).mpr h0)
  have hj0 := hj
  rw [ol_cf_refs hr ht] at hj
  cases r with
  | none =>
    refine va_astqN C.1 C.2.1 C.2.2.2.2.2.1.1 h2 h3 hS j t hj htt hin hdg (fun H1 locs1 hP1 hD1 hS1 => ?_)
    exact kk H1 locs1 ls (ol_set (I' := I) (F' := ol_u2 F a i.toNatClampNeg none) h1 h3 ((h1 a).mpr h0) hj0 (by rw [hr]; unfold ol_u2; rw [va_up_self]; show _ = Sum.inl (cA t, n, if ol_ar t = true then _ else _); rw [if_pos ht]) (fun _ _ => rfl) (fun b hb => ol_u2_a F none hb) hP1 hD1) hS1 hl
  | some b =>
    obtain ⟨g0, ci, q, g1, g2, g3⟩ := hc b rfl
    obtain ⟨j2, hj2⟩ := ol_pl_get (f := ol_cf cA ro I F) ((h1 b).mpr g0)
    rw [ol_cf_obj g1] at hj2
    refine va_astqO C.1 C.2.1 C.2.2.2.2.2.1.1 h2 h3 hS j t j2 ci hj htt (C.2.2.2.2.2.1.2.1 _ g3) hj2 g2 hin hdg (fun H1 locs1 hP1 hD1 hS1 => ?_)
    exact kk H1 locs1 ls (ol_set (I' := I) (F' := ol_u2 F a i.toNatClampNeg (some b)) h1 h3 ((h1 a).mpr h0) hj0 (by rw [hr]; unfold ol_u2; rw [va_up_self]; show _ = Sum.inl (cA t, n, if ol_ar t = true then _ else _); rw [if_pos ht]) (fun _ _ => rfl) (fun b' hb => ol_u2_a F (some b) hb) hP1 hD1) hS1 hl
/-! new cells -/
theorem ol_new {ci index r : Nat} {q : vw_C} (C : ol_Cx p s m args c cc nL own D cA A) (hq : ol_cl[ci]? = some q) (hr : ol_ct r = .inl ci) (hr0 : r ≠ 0) (hcl : Cond.classLink own index q.1 ∈ ol_all) (hin : Cond.instantiable q.1 q.2.2 ∈ ol_all) (hini : Cond.initialized q.1 ∈ ol_all) (hcells : cells + 1 ≤ R.cells) (hslots : slots + q.2.2 ≤ R.slots) (hdg : decode cc pc = .ok (.new index, 3)) (kk : ∀ a, ro a = 0 → ol_W p l e R s m args below meth c D cA A Q nL (va_up ro a r) (va_up I a (fun _ => 0)) (va_up F a (fun _ => none)) (cells + 1) (slots + q.2.2) (pc + 3) lv (.ref a :: rest)) : ol_W p l e R s m args below meth c D cA A Q nL ro I F cells slots pc lv rest := by
  intro H locs ls hP hS hl
  obtain ⟨L, h1, h2, h3⟩ := id hP
  refine va_new (ci := ci) (fs := ol_fv (ol_fk ci) 0 (fun _ => 0) (fun _ => none)) C.1 C.2.1 C.2.2.2.2.1 (ol_cl_ws ci q hq) (ol_ty ci) (ol_cl_ty ci q hq) C.2.2.2.1 (C.2.2.2.2.1 _ hcl) (C.2.2.2.2.1 _ hin) (C.2.2.2.2.1 _ hini) C.2.2.2.2.2.1.1 h2 h3 hS C.2.2.2.2.2.2 hq (ol_cl_df ci q hq) hcells hslots hdg (fun a H1 hP1 hD1 hS1 => ?_)
  obtain ⟨g1, g2⟩ := ol_push (r := r) (I' := va_up I a (fun _ => 0)) (F' := va_up F a (fun _ => none)) h1 hr0 (by rw [hr, va_up_self, va_up_self]; rfl) (fun b hb => va_up_ne _ _ hb) (fun b hb => va_up_ne _ _ hb) hP1 hD1
  exact kk a g1 H1 locs ls g2 hS1 hl
theorem ol_newI {n r : Nat} {k : Int32} (C : ol_Cx p s m args c cc nL own D cA A) (hw : Cond.arrayClass .int ∈ ol_all) (hr : ol_ct r = .inr (0, n)) (hr0 : r ≠ 0) (hk : ¬ k < 0) (hn : k.toNatClampNeg = n) (hb : n * componentBytes .int ≤ 536870912) (hcells : cells + 1 ≤ R.cells) (hslots : slots + n ≤ R.slots) (hdg : decode cc pc = .ok (.newarray .int, 2)) (kk : ∀ a, ro a = 0 → ol_W p l e R s m args below meth c D cA A Q nL (va_up ro a r) (va_up I a (fun _ => 0)) (va_up F a (fun _ => none)) (cells + 1) (slots + n) (pc + 2) lv (.ref a :: rest)) : ol_W p l e R s m args below meth c D cA A Q nL ro I F cells slots pc lv (.int k :: rest) := by
  intro H locs ls hP hS hl
  obtain ⟨L, h1, h2, h3⟩ := id hP
  refine va_newa (atype := .int) (ty := .int) (a0 := (n, .inl (fun _ => 0))) C.1 C.2.1 (C.2.2.2.2.1 _ hw) rfl C.2.2.2.2.2.1.1 h2 h3 hS C.2.2.2.2.2.2 (fun cB => rfl) hk hn hb hcells hslots hdg (fun a cB H1 hK1 hP1 hD1 hS1 => ?_)
  have e1 : s.vm.findClass ("[" ++ (FieldType.int).toString) = some cB := (hK1.2 4 (cB, .int) rfl).2
  have e2 : s.vm.findClass ("[" ++ (FieldType.int).toString) = some (cA 0) := (C.2.2.2.2.2.1.1.2 0 (cA 0, .int) rfl).2
  have e3 : cB = cA 0 := Option.some.inj (e1.symm.trans e2)
  subst e3
  obtain ⟨g1, g2⟩ := ol_push (r := r) (I' := va_up I a (fun _ => 0)) (F' := va_up F a (fun _ => none)) h1 hr0 (by rw [hr, va_up_self, va_up_self]; rfl) (fun b hb => va_up_ne _ _ hb) (fun b hb => va_up_ne _ _ hb) hP1 hD1
  exact kk a g1 H1 locs ls g2 hS1 hl
theorem ol_newZ {n r : Nat} {k : Int32} (C : ol_Cx p s m args c cc nL own D cA A) (hw : Cond.arrayClass .boolean ∈ ol_all) (hr : ol_ct r = .inr (1, n)) (hr0 : r ≠ 0) (hk : ¬ k < 0) (hn : k.toNatClampNeg = n) (hb : n * componentBytes .boolean ≤ 536870912) (hcells : cells + 1 ≤ R.cells) (hslots : slots + n ≤ R.slots) (hdg : decode cc pc = .ok (.newarray .boolean, 2)) (kk : ∀ a, ro a = 0 → ol_W p l e R s m args below meth c D cA A Q nL (va_up ro a r) (va_up I a (fun _ => 0)) (va_up F a (fun _ => none)) (cells + 1) (slots + n) (pc + 2) lv (.ref a :: rest)) : ol_W p l e R s m args below meth c D cA A Q nL ro I F cells slots pc lv (.int k :: rest) := by
  intro H locs ls hP hS hl
  obtain ⟨L, h1, h2, h3⟩ := id hP
  refine va_newa (atype := .boolean) (ty := .boolean) (a0 := (n, .inl (fun _ => 0))) C.1 C.2.1 (C.2.2.2.2.1 _ hw) rfl C.2.2.2.2.2.1.1 h2 h3 hS C.2.2.2.2.2.2 (fun cB => rfl) hk hn hb hcells hslots hdg (fun a cB H1 hK1 hP1 hD1 hS1 => ?_)
  have e1 : s.vm.findClass ("[" ++ (FieldType.boolean).toString) = some cB := (hK1.2 4 (cB, .boolean) rfl).2
  have e2 : s.vm.findClass ("[" ++ (FieldType.boolean).toString) = some (cA 1) := (C.2.2.2.2.2.1.1.2 1 (cA 1, .boolean) rfl).2
  have e3 : cB = cA 1 := Option.some.inj (e1.symm.trans e2)
  subst e3
  obtain ⟨g1, g2⟩ := ol_push (r := r) (I' := va_up I a (fun _ => 0)) (F' := va_up F a (fun _ => none)) h1 hr0 (by rw [hr, va_up_self, va_up_self]; rfl) (fun b hb => va_up_ne _ _ hb) (fun b hb => va_up_ne _ _ hb) hP1 hD1
  exact kk a g1 H1 locs ls g2 hS1 hl
theorem ol_newQ {n t index r : Nat} {k : Int32} {cn : String} (C : ol_Cx p s m args c cc nL own D cA A) (ht : ol_ar t = true) (htt : (ol_tys cA)[t]? = some (cA t, .object cn)) (hcl : Cond.classLink own index cn ∈ ol_all) (hov : cn ∈ ol_n3) (hr : ol_ct r = .inr (t, n)) (hr0 : r ≠ 0) (hk : ¬ k < 0) (hn : k.toNatClampNeg = n) (hb : n * 4 ≤ 536870912) (hcells : cells + 1 ≤ R.cells) (hslots : slots + n ≤ R.slots) (hdg : decode cc pc = .ok (.anewarray index, 3)) (kk : ∀ a, ro a = 0 → ol_W p l e R s m args below meth c D cA A Q nL (va_up ro a r) (va_up I a (fun _ => 0)) (va_up F a (fun _ => none)) (cells + 1) (slots + n) (pc + 3) lv (.ref a :: rest)) : ol_W p l e R s m args below meth c D cA A Q nL ro I F cells slots pc lv (.int k :: rest) := by
  intro H locs ls hP hS hl
  obtain ⟨L, h1, h2, h3⟩ := id hP
  refine va_newq C.1 C.2.1 C.2.2.2.1 (C.2.2.2.2.1 _ hcl) (C.2.2.2.2.2.1.2.2.2 cn hov) C.2.2.2.2.2.1.1 h2 h3 hS C.2.2.2.2.2.2 hk hn hb hcells hslots hdg (fun a cB H1 hK1 hP1 hD1 hS1 => ?_)
  obtain ⟨-, -, -, -, -, e1⟩ := (hK1.2 4 (cB, .object cn) rfl).2
  obtain ⟨-, -, -, -, -, e2⟩ := (C.2.2.2.2.2.1.1.2 t (cA t, .object cn) htt).2
  have e3 : cB = cA t := Option.some.inj (e1.symm.trans e2)
  subst e3
  obtain ⟨g1, g2⟩ := ol_push (r := r) (I' := va_up I a (fun _ => 0)) (F' := va_up F a (fun _ => none)) h1 hr0 (by rw [hr, va_up_self, va_up_self]; show _ = Sum.inl (cA t, n, if ol_ar t = true then _ else _); rw [if_pos ht]) (fun b hb => va_up_ne _ _ hb) (fun b hb => va_up_ne _ _ hb) hP1 hD1
  exact kk a g1 H1 locs ls g2 hS1 hl
/-! instanceof and checkcast -/
theorem ol_recv {H : Heap} {a ci : Nat} {q : vw_C} (C : ol_Cx p s m args c cc nL own D cA A) (hP : ol_PG D cA A ro I F H) (h0 : ro a ≠ 0) (hr : ol_ct (ro a) = .inl ci) (hq : ol_cl[ci]? = some q) : ∃ cell : Cell, H[a]? = some cell ∧ cell.vm.isStatics = false ∧ s.vm.findClass q.1 = some cell.cls := by
  obtain ⟨L, h1, h2, h3⟩ := hP
  obtain ⟨j, hj⟩ := ol_pl_get (f := ol_cf cA ro I F) ((h1 a).mpr h0)
  rw [ol_cf_obj hr] at hj
  exact va_recv C.2.2.2.2.2.1.1 h2 hq hj
theorem ol_instY {a ci index : Nat} {q : vw_C} {cn : String} (C : ol_Cx p s m args c cc nL own D cA A) (h0 : ro a ≠ 0) (hr : ol_ct (ro a) = .inl ci) (hq : ol_cl[ci]? = some q) (hcl : Cond.classLink own index cn ∈ ol_all) (hc : Cond.castable q.1 cn ∈ ol_n1) (hdg : decode cc pc = .ok (.instanceof index, 3)) (kk : ol_W p l e R s m args below meth c D cA A Q nL ro I F cells slots (pc + 3) lv (.int 1 :: rest)) : ol_W p l e R s m args below meth c D cA A Q nL ro I F cells slots pc lv (.ref a :: rest) :=
  fun H locs ls hP hS hl => va_instY C.1 C.2.1 C.2.2.2.1 (C.2.2.2.2.1 _ hcl) (C.2.2.2.2.2.1.2.1 _ hc) (ol_recv C hP h0 hr hq) hdg (kk H locs ls hP hS hl)
theorem ol_instNo {a ci index : Nat} {q : vw_C} {cn : String} (C : ol_Cx p s m args c cc nL own D cA A) (h0 : ro a ≠ 0) (hr : ol_ct (ro a) = .inl ci) (hq : ol_cl[ci]? = some q) (hcl : Cond.classLink own index cn ∈ ol_all) (hc : (q.1, cn) ∈ ol_n2) (hdg : decode cc pc = .ok (.instanceof index, 3)) (kk : ol_W p l e R s m args below meth c D cA A Q nL ro I F cells slots (pc + 3) lv (.int 0 :: rest)) : ol_W p l e R s m args below meth c D cA A Q nL ro I F cells slots pc lv (.ref a :: rest) :=
  fun H locs ls hP hS hl => va_instNo C.1 C.2.1 C.2.2.2.1 (C.2.2.2.2.1 _ hcl) (C.2.2.2.2.2.1.2.2.1 _ hc) (ol_recv C hP h0 hr hq) hdg (kk H locs ls hP hS hl)
theorem ol_instN {index : Nat} (C : ol_Cx p s m args c cc nL own D cA A) (hdg : decode cc pc = .ok (.instanceof index, 3)) (kk : ol_W p l e R s m args below meth c D cA A Q nL ro I F cells slots (pc + 3) lv (.int 0 :: rest)) : ol_W p l e R s m args below meth c D cA A Q nL ro I F cells slots pc lv (.null :: rest) :=
  fun H locs ls hP hS hl => lv_instN C.1 C.2.1 hdg (kk H locs ls hP hS hl)
theorem ol_cast {a ci index : Nat} {q : vw_C} {cn : String} (C : ol_Cx p s m args c cc nL own D cA A) (h0 : ro a ≠ 0) (hr : ol_ct (ro a) = .inl ci) (hq : ol_cl[ci]? = some q) (hcl : Cond.classLink own index cn ∈ ol_all) (hc : Cond.castable q.1 cn ∈ ol_n1) (hdg : decode cc pc = .ok (.checkcast index, 3)) (kk : ol_W p l e R s m args below meth c D cA A Q nL ro I F cells slots (pc + 3) lv (.ref a :: rest)) : ol_W p l e R s m args below meth c D cA A Q nL ro I F cells slots pc lv (.ref a :: rest) :=
  fun H locs ls hP hS hl => va_castY C.1 C.2.1 C.2.2.2.1 (C.2.2.2.2.1 _ hcl) (C.2.2.2.2.2.1.2.1 _ hc) (ol_recv C hP h0 hr hq) hdg (kk H locs ls hP hS hl)
end OLR
/-! contracts -/
def ol_fr (ro : Nat → Nat) (sz : Nat) : Nat → Prop := fun q => ro q ≠ 0 ∨ sz ≤ q
def ol_Pc (D : va_G) (cA : Nat → ClassId) (av : List Value) (ro : Nat → Nat) (I : Nat → Nat → Int32) (F : Nat → Nat → Option Nat) (sz : Nat) : Array Value → State → Prop := va_Pc av (fun U => U.heap.size = sz ∧ ol_PG D cA (fun _ => True) ro I F U.heap ∧ ol_KU D cA U)
def ol_Qc (D : va_G) (cA : Nat → ClassId) (ro : Nat → Nat) (post : Option Value → (Nat → Nat) → (Nat → Nat → Int32) → (Nat → Nat → Option Nat) → Prop) (sz : Nat) : Array Value → State → Outcome → State → Prop := fun _ st oc t => (∃ (v : Option Value) (ro' : Nat → Nat) (I' : Nat → Nat → Int32) (F' : Nat → Nat → Option Nat), oc = .returned v ∧ post v ro' I' F' ∧ ol_PG D cA (ol_fr ro sz) ro' I' F' t.heap) ∧ va_F (ol_fr ro sz) st t
/-- A METHOD'S CONTRACT over the typed memory: from (ro, I, F) with these arguments it returns, and 'post' holds of answer and memory -/
def ol_M (l : Launch) (D : va_G) (cA : Nat → ClassId) (y : MethodName) (b : ByteArray) (n : Nat) (ret : Option FieldType) (rm : Room) (av : List Value) (ro : Nat → Nat) (I : Nat → Nat → Int32) (F : Nat → Nat → Option Nat) (post : Option Value → (Nat → Nat) → (Nat → Nat → Int32) → (Nat → Nat → Option Nat) → Prop) : Prop :=
  ∀ sz : Nat, Met l y (.code y b n ret :: ol_all) rm (ol_Pc D cA av ro I F sz) (ol_Qc D cA ro post sz) rm.cells rm.slots (ol_fr ro sz)
/-- where a method's walk ends -/
def ol_Q (D : va_G) (cA : Nat → ClassId) (below : List Frame) (args : Array Value) (s : State) (rm : Room) (ro : Nat → Nat) (post : Option Value → (Nat → Nat) → (Nat → Nat → Int32) → (Nat → Nat → Option Nat) → Prop) : State → Prop := MQ below (ol_Qc D cA ro post s.heap.size) args s rm.cells rm.slots (ol_fr ro s.heap.size)
theorem ol_M.of {l : Launch} {D : va_G} {cA : Nat → ClassId} {y : MethodName} {b : ByteArray} {n : Nat} {ret : Option FieldType} {rm : Room} {av : List Value} {ro : Nat → Nat} {I : Nat → Nat → Int32} {F : Nat → Nat → Option Nat} {post : Option Value → (Nat → Nat) → (Nat → Nat → Int32) → (Nat → Nat → Option Nat) → Prop} (hy : plainName y.cls = true) (hlen : av.length ≤ n) (hcat : ∀ v ∈ av, v.category = 1)
    (body : ∀ (p : Program) (e : Env) (s : State) (m : MethodId) (args : Array Value) (below : List Frame) (meth : Method) (c : Code), ol_Cx p s m args c b n y.cls D cA (ol_fr ro s.heap.size) → meth.sig.returnType = ret → meth.locks = false → meth.name = y.name → ol_W p l e rm s m args below meth c D cA (ol_fr ro s.heap.size) (ol_Q D cA below args s rm ro post) n ro I F 0 0 0 (av.map some ++ List.replicate (n - av.length) none) []) : ol_M l D cA y b n ret rm av ro I F post := by
  intro sz
  refine Met.ofW (cc := b) (maxL := n) (ret := ret) hy rfl ?_
  intro p e s m args below meth c s₁ B hml hv
  obtain ⟨rfl, hsz, hP, hK⟩ := hv
  subst hsz
  have hts := atoms_spec (ws := .code y b n ret :: ol_all) B.pre
  have hown : s.vm.findClass y.cls = some m.cls := findClass_of_methodNamed B.named
  have hin : meth.name = y.name := (name_of_methodNamed B.named B.method).1
  have hsl : ∀ vs : List Value, (∀ v ∈ vs, v.category = 1) → (lg_sl vs).length = vs.length := by
    intro vs
    induction vs with
    | nil => intro _; rfl
    | cons v t ih =>
      intro h
      have h1 : v.category = 1 := h v List.mem_cons_self
      have h2 := ih (fun w hw => h w (List.mem_cons_of_mem _ hw))
      simp only [lg_sl, List.flatMap_cons, List.length_append, List.length_cons] at h2 ⊢
      rw [if_neg (by rw [h1]; decide), h2]
      simp
      omega
  have hl := lv_entry av (n := n) (by rw [hsl av hcat]; exact hlen)
  rw [lg_entry_eq]
  have hLH := ol_LH.entry (n - av.length) hcat hl
  refine body p e s m _ below meth c ⟨B.exec, B.bytes, hml, hown, fun w hw => hts w (List.mem_cons_of_mem _ hw), hK, fun q h => Or.inr h⟩ B.returns B.notSynchronized hin s.heap [] _ (hP.weaken (fun a ha _ => Or.inl ha)) va_S.rf hLH
section OLE
variable {p : Program} {l : Launch} {e : Env} {R : Room} {s : State} {m : MethodId} {args : Array Value} {below : List Frame} {meth : Method} {c : Code} {D : va_G} {cA : Nat → ClassId} {A : Nat → Prop} {Q : State → Prop} {nL : Nat} {ro : Nat → Nat} {I : Nat → Nat → Int32} {F : Nat → Nat → Option Nat} {cells slots pc : Nat} {lv : List (Option Value)} {rest : List Value} {cc : ByteArray} {own : String}
variable {rm : Room} {ro0 : Nat → Nat} {post : Option Value → (Nat → Nat) → (Nat → Nat → Int32) → (Nat → Nat → Option Nat) → Prop}
theorem ol_iret {x : Int32} {ty : FieldType} (C : ol_Cx p s m args c cc nL own D cA (ol_fr ro0 s.heap.size)) (hr : meth.sig.returnType = some ty) (hlk : meth.locks = false) (hn : narrow ty (.int x) = .int x) (hc1 : cells ≤ rm.cells) (hc2 : slots ≤ rm.slots) (hdg : decode cc pc = .ok (.ireturn, 1)) (hp : post (some (.int x)) ro I F) : ol_W p l e R s m args below meth c D cA (ol_fr ro0 s.heap.size) (ol_Q D cA below args s rm ro0 post) nL ro I F cells slots pc lv [.int x] := by
  intro H locs ls hP hS hl
  refine W.widen hc1 hc2 ?_
  exact W.zret C.1 C.2.1 hr hn (fun t ht hW => ⟨⟨_, ro, I, F, rfl, hp, by rw [ht]; exact hP⟩, hS.F ht⟩) hS.2.2 hdg hlk
theorem ol_aret {r : Option Nat} {v : Value} {rt : FieldType} (C : ol_Cx p s m args c cc nL own D cA (ol_fr ro0 s.heap.size)) (hv : v = va_rf r) (hr : meth.sig.returnType = some rt) (hrt : (∃ n, rt = .object n) ∨ ∃ t, rt = .array t) (hlk : meth.locks = false) (hc1 : cells ≤ rm.cells) (hc2 : slots ≤ rm.slots) (hdg : decode cc pc = .ok (.areturn, 1)) (hp : post (some (va_rf r)) ro I F) : ol_W p l e R s m args below meth c D cA (ol_fr ro0 s.heap.size) (ol_Q D cA below args s rm ro0 post) nL ro I F cells slots pc lv [v] := by
  intro H locs ls hP hS hl
  subst hv
  refine W.widen hc1 hc2 ?_
  exact W.aret C.1 C.2.1 hr hrt (va_rf_or r) (fun t ht hW => ⟨⟨_, ro, I, F, rfl, hp, by rw [ht]; exact hP⟩, hS.F ht⟩) hS.2.2 hdg hlk
theorem ol_vret (C : ol_Cx p s m args c cc nL own D cA (ol_fr ro0 s.heap.size)) (hr : meth.sig.returnType = none) (hlk : meth.locks = false) (hc1 : cells ≤ rm.cells) (hc2 : slots ≤ rm.slots) (hdg : decode cc pc = .ok (.return_, 1)) (hp : post none ro I F) : ol_W p l e R s m args below meth c D cA (ol_fr ro0 s.heap.size) (ol_Q D cA below args s rm ro0 post) nL ro I F cells slots pc lv [] := by
  intro H locs ls hP hS hl
  refine W.widen hc1 hc2 ?_
  exact W.vret C.1 C.2.1 hr (fun t ht hW => ⟨⟨_, ro, I, F, rfl, hp, by rw [ht]; exact hP⟩, hS.F ht⟩) hS.2.2 hdg hlk
/-- behind a call -/
theorem ol_fin {y : MethodName} {b : ByteArray} {n : Nat} {ret : Option FieldType} {H : Heap} {locs : List Loc} {ls : Array Slot} {st0 : List Value} {a : Array Value} (C : ol_Cx p s m args c cc nL own D cA A) (hP : ol_PG D cA A ro I F H) (hS : va_S A s.heap H locs) (hl : ol_LH ls nL lv)
    (hr : va_Run p l e R s m args below meth c H locs cells slots rm.cells rm.slots (F0 m pc ls st0) rest (ol_Qc D cA ro post H.size a) (ol_fr ro H.size))
    (kk : ∀ (v : Option Value) (ro' : Nat → Nat) (I' : Nat → Nat → Int32) (F' : Nat → Nat → Option Nat), post v ro' I' F' → ol_W p l e R s m args below meth c D cA A Q nL ro' I' F' (cells + rm.cells) (slots + rm.slots) (pc + 3) lv (v.toList ++ rest)) : W p l e R s m args below meth c H locs cells slots Q (F0 m pc ls st0) := by
  have hA : ∀ q, ol_fr ro H.size q → A q := by
    intro q h
    rcases h with h | h
    · exact hP.mem h
    · exact C.2.2.2.2.2.2 q (Nat.le_trans hS.1 h)
  intro T hT X
  obtain ⟨v, st₀, t, T', L, h0, X', hL, e1, e2, ⟨⟨v', ro', I', F', hv, hp, hPG⟩, hz, hk⟩, st⟩ := hr T hT X
  cases hv
  rw [h0] at hz hk
  obtain ⟨t2, a1, b1⟩ := kk v ro' I' F' hp T'.heap (locs ++ L) ls (by rw [e1]; exact hPG.weaken (fun q _ h => hA q h))
    ⟨Nat.le_trans hS.1 (by rw [e1]; exact hz), fun q h1 h2 => by rw [e1, hk q (Nat.lt_of_lt_of_le h1 hS.1) (fun z => h2 (hA q z))]; exact hS.2.1 q h1 h2, fun q hq => by
      rcases List.mem_append.mp hq with h | h
      · exact hS.2.2 q h
      · exact hA _ (hL q h)⟩ hl T' rfl X'
  exact ⟨t2, st t2 a1, b1⟩
theorem ol_blind {av : List Value} {sz : Nat} : FrameBlind (ol_Pc D cA av ro I F sz) := by
  intro a U g mk q
  obtain ⟨q0, q1, qP, qK⟩ := q
  exact ⟨q0, q1, qP, ol_KU.same (u := U) (U := U.calling g mk a) rfl qK⟩
theorem ol_pre {av : List Value} {H : Heap} (C : ol_Cx p s m args c cc nL own D cA A) (hP : ol_PG D cA A ro I F H) : ∀ U : State, U.heap = H → s.WarmedH U.vm → ol_Pc D cA av ro I F H.size av.toArray U := by
  intro U hU hW
  exact ⟨rfl, by rw [hU], by rw [hU]; exact hP.weaken (fun _ _ _ => trivial), ol_KU.warm hW C.2.2.2.2.2.1⟩
theorem ol_good {y : MethodName} {b : ByteArray} {n : Nat} {ret : Option FieldType} (hcode : Cond.code y b n ret ∈ ol_all) : GoodIn ol_all (.code y b n ret :: ol_all) := by
  intro w hw
  rcases List.mem_cons.mp hw with rfl | h
  · exact ol_all_good _ hcode
  · exact ol_all_good _ h
abbrev ol_mh (y : MethodName) (k : Nat) : Prop := y.cls ≠ "java/lang/invoke/MethodHandle" ∧ y.cls ≠ "java/lang/invoke/VarHandle" ∧ (parseMethodDescriptor y.desc).map (fun d => d.parameters.length) = some k
abbrev ol_rm (R rm : Room) (n cells slots : Nat) : Prop := (rm.frames + 1 ≤ R.frames ∧ 8 + (n + 11) + rm.locals ≤ R.locals) ∧ (cells + rm.cells ≤ R.cells ∧ slots + rm.slots ≤ R.slots)
theorem ol_callS {y : MethodName} {b : ByteArray} {n index : Nat} {ret : Option FieldType} {As st : List Value} (C : ol_Cx p s m args c cc nL own D cA A) (hM : ol_M l D cA y b n ret rm As ro I F post) (hcode : Cond.code y b n ret ∈ ol_all) (hini : Cond.initialized y.cls ∈ ol_all) (hlink : Cond.methodLink own index y ∈ ol_all) (hsta : Cond.static y ∈ ol_all) (hmh : ol_mh y As.length) (hR : ol_rm R rm n cells slots) (hst : st = As.reverse ++ rest) (hW : (rest.map fun v => v.category).sum ≤ 8) (hdg : decode cc pc = .ok (.invokestatic index, 3))
    (kk : ∀ (v : Option Value) (ro' : Nat → Nat) (I' : Nat → Nat → Int32) (F' : Nat → Nat → Option Nat), post v ro' I' F' → ol_W p l e R s m args below meth c D cA A Q nL ro' I' F' (cells + rm.cells) (slots + rm.slots) (pc + 3) lv (v.toList ++ rest)) : ol_W p l e R s m args below meth c D cA A Q nL ro I F cells slots pc lv st := by
  intro H locs ls hP hS hl
  refine ol_fin (y := y) (b := b) (n := n) (ret := ret) C hP hS hl (va_runS (As := As) (rest := rest) ⟨C.1, C.2.1, C.2.2.1, C.2.2.2.1, C.2.2.2.2.1⟩ (hM H.size) ⟨callB_of As.length C.2.2.2.2.1 (ol_good hcode) rfl rfl rfl (C.2.2.2.2.1 _ hini) (C.2.2.2.2.1 _ hlink) hmh hR.1, C.2.2.2.2.1 _ hsta⟩ ⟨ol_blind, ol_pre C hP⟩ rfl rfl hl.1.1 hst (lv_room hW) hdg hR.2) kk
theorem ol_callI {y : MethodName} {b : ByteArray} {n index a : Nat} {As st : List Value} (C : ol_Cx p s m args c cc nL own D cA A) (hM : ol_M l D cA y b n none rm (.ref a :: As) ro I F post) (hcode : Cond.code y b n none ∈ ol_all) (hini : Cond.initialized y.cls ∈ ol_all) (hlink : Cond.methodLink own index y ∈ ol_all) (hinm : Cond.instanceMethod y ∈ ol_all) (hy1 : y.name = "<init>") (hmh : ol_mh y As.length) (hR : ol_rm R rm n cells slots) (hst : st = As.reverse ++ .ref a :: rest) (hW : (rest.map fun v => v.category).sum ≤ 8) (hdg : decode cc pc = .ok (.invokespecial index, 3))
    (kk : ∀ (v : Option Value) (ro' : Nat → Nat) (I' : Nat → Nat → Int32) (F' : Nat → Nat → Option Nat), post v ro' I' F' → ol_W p l e R s m args below meth c D cA A Q nL ro' I' F' (cells + rm.cells) (slots + rm.slots) (pc + 3) lv (v.toList ++ rest)) : ol_W p l e R s m args below meth c D cA A Q nL ro I F cells slots pc lv st := by
  intro H locs ls hP hS hl
  refine ol_fin (y := y) (b := b) (n := n) (ret := none) C hP hS hl (va_runI (As := As) (rest := rest) (b := a) ⟨C.1, C.2.1, C.2.2.1, C.2.2.2.1, C.2.2.2.2.1⟩ (hM H.size) ⟨callB_of As.length C.2.2.2.2.1 (ol_good hcode) rfl rfl rfl (C.2.2.2.2.1 _ hini) (C.2.2.2.2.1 _ hlink) hmh hR.1, hy1, C.2.2.2.2.1 _ hinm⟩ ⟨ol_blind, ol_pre C hP⟩ rfl rfl hl.1.1 hst (lv_room hW) hdg hR.2) kk
theorem ol_callV {y : MethodName} {b : ByteArray} {n index a ci : Nat} {q : vw_C} {ret : Option FieldType} {As st : List Value} (C : ol_Cx p s m args c cc nL own D cA A) (hM : ol_M l D cA y b n ret rm (.ref a :: As) ro I F post) (h0 : ro a ≠ 0) (hr : ol_ct (ro a) = .inl ci) (hq : ol_cl[ci]? = some q) (hcode : Cond.code y b n ret ∈ ol_all) (hini : Cond.initialized y.cls ∈ ol_all) (hlink : Cond.methodLink own index y ∈ ol_all) (hinm : Cond.instanceMethod y ∈ ol_all) (hsel : Cond.selects q.1 y y ∈ ol_all) (hmh : ol_mh y As.length) (hR : ol_rm R rm n cells slots) (hst : st = As.reverse ++ .ref a :: rest) (hW : (rest.map fun v => v.category).sum ≤ 8) (hdg : decode cc pc = .ok (.invokevirtual index, 3))
    (kk : ∀ (v : Option Value) (ro' : Nat → Nat) (I' : Nat → Nat → Int32) (F' : Nat → Nat → Option Nat), post v ro' I' F' → ol_W p l e R s m args below meth c D cA A Q nL ro' I' F' (cells + rm.cells) (slots + rm.slots) (pc + 3) lv (v.toList ++ rest)) : ol_W p l e R s m args below meth c D cA A Q nL ro I F cells slots pc lv st := by
  intro H locs ls hP hS hl
  refine ol_fin (y := y) (b := b) (n := n) (ret := ret) C hP hS hl (va_runV (As := As) (rest := rest) (b := a) (C := q.1) ⟨C.1, C.2.1, C.2.2.1, C.2.2.2.1, C.2.2.2.2.1⟩ (hM H.size) ⟨callB_of As.length C.2.2.2.2.1 (ol_good hcode) rfl rfl rfl (C.2.2.2.2.1 _ hini) (C.2.2.2.2.1 _ hlink) hmh hR.1, C.2.2.2.2.1 _ hinm, C.2.2.2.2.1 _ hsel⟩ ⟨ol_blind, ol_recv C hP h0 hr hq, ol_pre C hP⟩ rfl rfl hl.1.1 hst (lv_room hW) hdg hR.2) kk
/-- a call that names x and runs y: inherited, overridden or abstract; x is declared by 'owner' -/
theorem ol_callU {x y : MethodName} {owner : String} {b : ByteArray} {n index a ci : Nat} {q : vw_C} {ret : Option FieldType} {As st : List Value} (C : ol_Cx p s m args c cc nL own D cA A) (hM : ol_M l D cA y b n ret rm (.ref a :: As) ro I F post) (h0 : ro a ≠ 0) (hr : ol_ct (ro a) = .inl ci) (hq : ol_cl[ci]? = some q) (hcode : Cond.code y b n ret ∈ ol_all) (hini : Cond.initialized y.cls ∈ ol_all) (hlink : Cond.methodLink own index x ∈ ol_all) (hsame : Cond.sameMethod x.cls owner x.name x.desc ∈ ol_all) (hdec : Cond.declares ⟨owner, x.name, x.desc⟩ ∈ ol_n1) (hinm : Cond.instanceMethod y ∈ ol_all) (hsel : Cond.selects q.1 x y ∈ ol_all) (hmh : owner ≠ "java/lang/invoke/MethodHandle" ∧ owner ≠ "java/lang/invoke/VarHandle" ∧ (parseMethodDescriptor x.desc).map (fun d => d.parameters.length) = some As.length) (hR : ol_rm R rm n cells slots) (hst : st = As.reverse ++ .ref a :: rest) (hW : (rest.map fun v => v.category).sum ≤ 8) (hdg : decode cc pc = .ok (.invokevirtual index, 3))
    (kk : ∀ (v : Option Value) (ro' : Nat → Nat) (I' : Nat → Nat → Int32) (F' : Nat → Nat → Option Nat), post v ro' I' F' → ol_W p l e R s m args below meth c D cA A Q nL ro' I' F' (cells + rm.cells) (slots + rm.slots) (pc + 3) lv (v.toList ++ rest)) : ol_W p l e R s m args below meth c D cA A Q nL ro I F cells slots pc lv st := by
  intro H locs ls hP hS hl
  have hcw : va_CU R s args own q.1 owner index x y b n ret (.code y b n ret :: ol_all) rm rm.cells rm.slots As.length := by
    refine ⟨⟨rfl, rfl, hR.1.1, hR.1.2, pay_in C.2.2.2.2.1 (ol_good hcode), List.mem_cons_self⟩, C.2.2.2.2.1 _ hcode, C.2.2.2.2.1 _ hini, ⟨hmh.1, hmh.2.1⟩, fun sig h => ?_, C.2.2.2.2.1 _ hlink, C.2.2.2.2.1 _ hsame, va_Decl.abs (C.2.2.2.2.2.1.2.1 _ hdec), C.2.2.2.2.1 _ hsel, C.2.2.2.2.1 _ hinm⟩
    have h2 := hmh.2.2
    rw [h] at h2
    exact (Option.some.inj h2).symm
  refine ol_fin (y := y) (b := b) (n := n) (ret := ret) C hP hS hl (va_runU (As := As) (rest := rest) (b := a) (C := q.1) (owner := owner) (x := x) ⟨C.1, C.2.1, C.2.2.1, C.2.2.2.1, C.2.2.2.2.1⟩ (hM H.size) hcw ⟨ol_blind, ol_recv C hP h0 hr hq, ol_pre C hP⟩ rfl rfl hl.1.1 hst (lv_room hW) hdg hR.2) kk
/-- a private static method of a nest mate -/
theorem ol_callSN {y : MethodName} {b : ByteArray} {n index : Nat} {host : String} {ret : Option FieldType} {As st : List Value} (C : ol_Cx p s m args c cc nL own D cA A) (hM : ol_M l D cA y b n ret rm As ro I F post) (hcode : Cond.code y b n ret ∈ ol_all) (hini : Cond.initialized y.cls ∈ ol_all) (hlink : Cond.methodLinkNest own index y host ∈ ol_n1) (hsta : Cond.static y ∈ ol_all) (hmh : ol_mh y As.length) (hR : ol_rm R rm n cells slots) (hst : st = As.reverse ++ rest) (hW : (rest.map fun v => v.category).sum ≤ 8) (hdg : decode cc pc = .ok (.invokestatic index, 3))
    (kk : ∀ (v : Option Value) (ro' : Nat → Nat) (I' : Nat → Nat → Int32) (F' : Nat → Nat → Option Nat), post v ro' I' F' → ol_W p l e R s m args below meth c D cA A Q nL ro' I' F' (cells + rm.cells) (slots + rm.slots) (pc + 3) lv (v.toList ++ rest)) : ol_W p l e R s m args below meth c D cA A Q nL ro I F cells slots pc lv st := by
  intro H locs ls hP hS hl
  refine ol_fin (y := y) (b := b) (n := n) (ret := ret) C hP hS hl (va_runSN (As := As) (rest := rest) ⟨C.1, C.2.1, C.2.2.1, C.2.2.2.1, C.2.2.2.2.1⟩ (hM H.size) ⟨va_cnB As.length C.2.2.2.2.1 (ol_good hcode) rfl rfl rfl (C.2.2.2.2.2.1.2.1 _ hlink) (C.2.2.2.2.1 _ hini) hmh hR.1, C.2.2.2.2.1 _ hsta, trivial⟩ ⟨ol_blind, ol_pre C hP⟩ rfl rfl hl.1.1 hst (lv_room hW) hdg hR.2) kk
/-- a method of the class above, by super -/
theorem ol_callSU {y : MethodName} {b : ByteArray} {n index a ci : Nat} {q : vw_C} {ret : Option FieldType} {As st : List Value} (C : ol_Cx p s m args c cc nL own D cA A) (hM : ol_M l D cA y b n ret rm (.ref a :: As) ro I F post) (h0 : ro a ≠ 0) (hr : ol_ct (ro a) = .inl ci) (hq : ol_cl[ci]? = some q) (hcode : Cond.code y b n ret ∈ ol_all) (hini : Cond.initialized y.cls ∈ ol_all) (hlink : Cond.methodLink own index y ∈ ol_all) (hsame : Cond.sameMethod y.cls y.cls y.name y.desc ∈ ol_all) (hsup : Cond.superclass own y.cls ∈ ol_all) (hinm : Cond.instanceMethod y ∈ ol_all) (hmh : y.name ≠ "<init>" ∧ (parseMethodDescriptor y.desc).map (fun d => d.parameters.length) = some As.length) (hR : ol_rm R rm n cells slots) (hst : st = As.reverse ++ .ref a :: rest) (hW : (rest.map fun v => v.category).sum ≤ 8) (hdg : decode cc pc = .ok (.invokespecial index, 3))
    (kk : ∀ (v : Option Value) (ro' : Nat → Nat) (I' : Nat → Nat → Int32) (F' : Nat → Nat → Option Nat), post v ro' I' F' → ol_W p l e R s m args below meth c D cA A Q nL ro' I' F' (cells + rm.cells) (slots + rm.slots) (pc + 3) lv (v.toList ++ rest)) : ol_W p l e R s m args below meth c D cA A Q nL ro I F cells slots pc lv st := by
  intro H locs ls hP hS hl
  have hcw : va_CS R s args own index y b n ret (.code y b n ret :: ol_all) rm rm.cells rm.slots As.length := by
    refine ⟨⟨rfl, rfl, hR.1.1, hR.1.2, pay_in C.2.2.2.2.1 (ol_good hcode), List.mem_cons_self⟩, C.2.2.2.2.1 _ hlink, C.2.2.2.2.1 _ hsame, C.2.2.2.2.1 _ hsup, C.2.2.2.2.1 _ hinm, C.2.2.2.2.1 _ hini, C.2.2.2.2.1 _ hcode, hmh.1, fun sig h => ?_⟩
    have h2 := hmh.2
    rw [h] at h2
    exact (Option.some.inj h2).symm
  refine ol_fin (y := y) (b := b) (n := n) (ret := ret) C hP hS hl (va_runSU (As := As) (rest := rest) (b := a) (C := q.1) (C.2.2.2.2.2.1.1.1 ci q hq).2 ⟨C.1, C.2.1, C.2.2.1, C.2.2.2.1, C.2.2.2.2.1⟩ (hM H.size) hcw ⟨ol_blind, ol_recv C hP h0 hr hq, ol_pre C hP⟩ rfl rfl hl.1.1 hst (lv_room hW) hdg hR.2) kk
end OLE
end
section
/-! shorter rows: a cell's kind as one fact, things of any sort, indices by their number -/
def ol_is (ro : Nat → Nat) (a : Nat) (x : Nat ⊕ (Nat × Nat)) : Prop := ro a ≠ 0 ∧ ol_ct (ro a) = x
theorem ol_is_of {ro : Nat → Nat} {a r : Nat} {x : Nat ⊕ (Nat × Nat)} (h : ro a = r) (hr : r ≠ 0) (hx : ol_ct r = x) : ol_is ro a x := ⟨by rw [h]; exact hr, by rw [h]; exact hx⟩
/-- a thing of any of the seven sorts -/
def ol_th (ro : Nat → Nat) (a : Nat) : Prop := 2 ≤ ro a ∧ ro a ≤ 8
theorem ol_th_ct {ro : Nat → Nat} {a : Nat} (h : ol_th ro a) : ro a ≠ 0 ∧ ∃ ci, ci ∈ [1, 2, 3, 4, 5, 6, 7] ∧ ol_ct (ro a) = .inl ci := by
  obtain ⟨h1, h2⟩ := h
  refine ⟨by omega, ?_⟩
  have h3 : ro a = 2 ∨ ro a = 3 ∨ ro a = 4 ∨ ro a = 5 ∨ ro a = 6 ∨ ro a = 7 ∨ ro a = 8 := by omega
  rcases h3 with h | h | h | h | h | h | h <;> rw [h]
  · exact ⟨1, by decide, rfl⟩
  · exact ⟨2, by decide, rfl⟩
  · exact ⟨3, by decide, rfl⟩
  · exact ⟨4, by decide, rfl⟩
  · exact ⟨5, by decide, rfl⟩
  · exact ⟨6, by decide, rfl⟩
  · exact ⟨7, by decide, rfl⟩
/-- field k of a thing: declared as x, a reference or not, its type -/
def ol_tf (k : Nat) (x : String × String × String × Bool) (b : Bool) (ty : FieldType) : Prop := ∀ ci ∈ [1, 2, 3, 4, 5, 6, 7], ol_fd ci k = some x ∧ (ol_fk ci)[k]? = some b ∧ ol_ty ci k = ty
theorem ol_tf0 : ol_tf 0 ("ObjectLoads$Thing", "number", "I", true) false .int := by unfold ol_tf; decide
theorem ol_tf1 : ol_tf 1 ("ObjectLoads$Thing", "places", "[LObjectLoads$Thing;", true) true (.array (.object "ObjectLoads$Thing")) := by unfold ol_tf; decide
theorem ol_tf2 : ol_tf 2 ("ObjectLoads$Thing", "key", "I", false) false .int := by unfold ol_tf; decide
theorem ol_tf3 : ol_tf 3 ("ObjectLoads$Thing", "v", "I", false) false .int := by unfold ol_tf; decide
theorem ol_tf4 : ol_tf 4 ("ObjectLoads$Thing", "next", "LObjectLoads$Thing;", false) true (.object "ObjectLoads$Thing") := by unfold ol_tf; decide
theorem ol_tf5 : ol_tf 5 ("ObjectLoads$Thing", "held", "Z", false) false .boolean := by unfold ol_tf; decide
theorem ol_tf6 : ol_tf 6 ("ObjectLoads$Thing", "timesAsked", "I", false) false .int := by unfold ol_tf; decide
theorem ol_narq (C : String) (r : Option Nat) : narrow (.object C) (va_rf r) = va_rf r ∧ fits (.object C) (va_rf r) = true := by cases r <;> exact ⟨rfl, rfl⟩
theorem ol_nara (t : FieldType) (r : Option Nat) : narrow (.array t) (va_rf r) = va_rf r ∧ fits (.array t) (va_rf r) = true := by cases r <;> exact ⟨rfl, rfl⟩
def ol_b (b : Bool) : Int32 := if b = true then 1 else 0
theorem ol_b_t {b : Bool} (h : b = true) : ol_b b = 1 := by subst h; rfl
theorem ol_b_f {b : Bool} (h : b = false) : ol_b b = 0 := by subst h; rfl
theorem ol_b_nar (b : Bool) : narrow .boolean (.int (ol_b b)) = .int (ol_b b) := by cases b <;> rfl
theorem ol_b_fit (b : Bool) : fits .boolean (.int (ol_b b)) = true := by cases b <;> rfl
theorem ol_b_np (b : Bool) : vp_nar .boolean (ol_b b) = ol_b b := by cases b <;> rfl
section OLS
variable {p : Program} {l : Launch} {e : Env} {R : Room} {s : State} {m : MethodId} {args : Array Value} {below : List Frame} {meth : Method} {c : Code} {D : va_G} {cA : Nat → ClassId} {A : Nat → Prop} {Q : State → Prop} {nL : Nat} {ro : Nat → Nat} {I : Nat → Nat → Int32} {F : Nat → Nat → Option Nat} {cells slots pc : Nat} {lv : List (Option Value)} {rest : List Value} {cc : ByteArray} {own : String}
theorem ol_rf {r : Option Nat} {a : Nat} (h : r = some a) (kk : ol_W p l e R s m args below meth c D cA A Q nL ro I F cells slots pc lv (.ref a :: rest)) : ol_W p l e R s m args below meth c D cA A Q nL ro I F cells slots pc lv (va_rf r :: rest) := by subst h; exact kk
theorem ol_rfn {r : Option Nat} (h : r = none) (kk : ol_W p l e R s m args below meth c D cA A Q nL ro I F cells slots pc lv (.null :: rest)) : ol_W p l e R s m args below meth c D cA A Q nL ro I F cells slots pc lv (va_rf r :: rest) := by subst h; exact kk
theorem ol_st {st st' : List Value} (h : st = st') (kk : ol_W p l e R s m args below meth c D cA A Q nL ro I F cells slots pc lv st') : ol_W p l e R s m args below meth c D cA A Q nL ro I F cells slots pc lv st := by subst h; exact kk
theorem ol_ti {x y : Int32} (h : x = y) (kk : ol_W p l e R s m args below meth c D cA A Q nL ro I F cells slots pc lv (.int y :: rest)) : ol_W p l e R s m args below meth c D cA A Q nL ro I F cells slots pc lv (.int x :: rest) := by subst h; exact kk
theorem ol_mem {st : List Value} {I' : Nat → Nat → Int32} {F' : Nat → Nat → Option Nat} (h1 : I = I') (h2 : F = F') (kk : ol_W p l e R s m args below meth c D cA A Q nL ro I' F' cells slots pc lv st) : ol_W p l e R s m args below meth c D cA A Q nL ro I F cells slots pc lv st := by subst h1; subst h2; exact kk
theorem ol_gI {a ci k index : Nat} {ref dc nm ds : String} {fin : Bool} (C : ol_Cx p s m args c cc nL own D cA A) (hi : ol_is ro a (.inl ci)) (hfd : ol_fd ci k = some (dc, nm, ds, fin)) (hk : (ol_fk ci)[k]? = some false) (hlink : Cond.fieldLink own index ref nm ds ∈ ol_all) (hsm : ref = dc ∨ Cond.sameField ref dc nm ds ∈ ol_all) (hdg : decode cc pc = .ok (.getfield index, 3)) (kk : ol_W p l e R s m args below meth c D cA A Q nL ro I F cells slots (pc + 3) lv (.int (I a k) :: rest)) : ol_W p l e R s m args below meth c D cA A Q nL ro I F cells slots pc lv (.ref a :: rest) :=
  ol_getI C hi.1 hi.2 hfd hk hlink hsm hdg kk
theorem ol_gR {a ci k index : Nat} {ref dc nm ds : String} {fin : Bool} (C : ol_Cx p s m args c cc nL own D cA A) (hi : ol_is ro a (.inl ci)) (hfd : ol_fd ci k = some (dc, nm, ds, fin)) (hk : (ol_fk ci)[k]? = some true) (hlink : Cond.fieldLink own index ref nm ds ∈ ol_all) (hsm : ref = dc ∨ Cond.sameField ref dc nm ds ∈ ol_all) (hdg : decode cc pc = .ok (.getfield index, 3)) (kk : ol_W p l e R s m args below meth c D cA A Q nL ro I F cells slots (pc + 3) lv (va_rf (F a k) :: rest)) : ol_W p l e R s m args below meth c D cA A Q nL ro I F cells slots pc lv (.ref a :: rest) :=
  ol_getR C hi.1 hi.2 hfd hk hlink hsm hdg kk
theorem ol_pI {a ci k index : Nat} {ref dc nm ds : String} {v : Int32} (C : ol_Cx p s m args c cc nL own D cA A) (hi : ol_is ro a (.inl ci)) (hfd : ol_fd ci k = some (dc, nm, ds, false)) (hk : (ol_fk ci)[k]? = some false) (hlink : Cond.fieldLink own index ref nm ds ∈ ol_all) (hsm : ref = dc ∨ Cond.sameField ref dc nm ds ∈ ol_all) (hn : narrow (ol_ty ci k) (.int v) = .int v) (hfit : fits (ol_ty ci k) (.int v) = true) (hdg : decode cc pc = .ok (.putfield index, 3)) (kk : ol_W p l e R s m args below meth c D cA A Q nL ro (ol_u2 I a k v) F cells slots (pc + 3) lv rest) : ol_W p l e R s m args below meth c D cA A Q nL ro I F cells slots pc lv (.int v :: .ref a :: rest) :=
  ol_putI C hi.1 hi.2 hfd hk hlink hsm hn hfit hdg kk
theorem ol_pR {a ci k index : Nat} {ref dc nm ds : String} {r : Option Nat} {v : Value} (C : ol_Cx p s m args c cc nL own D cA A) (hv : v = va_rf r) (hi : ol_is ro a (.inl ci)) (hfd : ol_fd ci k = some (dc, nm, ds, false)) (hk : (ol_fk ci)[k]? = some true) (hlink : Cond.fieldLink own index ref nm ds ∈ ol_all) (hsm : ref = dc ∨ Cond.sameField ref dc nm ds ∈ ol_all) (hn : narrow (ol_ty ci k) (va_rf r) = va_rf r ∧ fits (ol_ty ci k) (va_rf r) = true) (hdg : decode cc pc = .ok (.putfield index, 3)) (kk : ol_W p l e R s m args below meth c D cA A Q nL ro I (ol_u2 F a k r) cells slots (pc + 3) lv rest) : ol_W p l e R s m args below meth c D cA A Q nL ro I F cells slots pc lv (v :: .ref a :: rest) :=
  ol_putR C hv hi.1 hi.2 hfd hk hlink hsm hn.1 hn.2 hdg kk
theorem ol_pIF {a ci k index : Nat} {ref dc nm ds : String} {v : Int32} (C : ol_Cx p s m args c cc nL own D cA A) (hi : ol_is ro a (.inl ci)) (hfd : ol_fd ci k = some (dc, nm, ds, true)) (hk : (ol_fk ci)[k]? = some false) (hlink : Cond.fieldLink own index ref nm ds ∈ ol_all) (hsm : ref = dc ∨ Cond.sameField ref dc nm ds ∈ ol_all) (hin : meth.name = "<init>") (hdc : dc = own) (hn : narrow (ol_ty ci k) (.int v) = .int v) (hfit : fits (ol_ty ci k) (.int v) = true) (hdg : decode cc pc = .ok (.putfield index, 3)) (kk : ol_W p l e R s m args below meth c D cA A Q nL ro (ol_u2 I a k v) F cells slots (pc + 3) lv rest) : ol_W p l e R s m args below meth c D cA A Q nL ro I F cells slots pc lv (.int v :: .ref a :: rest) :=
  ol_putIF C hi.1 hi.2 hfd hk hlink hsm hin hdc hn hfit hdg kk
theorem ol_pRF {a ci k index : Nat} {ref dc nm ds : String} {r : Option Nat} {v : Value} (C : ol_Cx p s m args c cc nL own D cA A) (hv : v = va_rf r) (hi : ol_is ro a (.inl ci)) (hfd : ol_fd ci k = some (dc, nm, ds, true)) (hk : (ol_fk ci)[k]? = some true) (hlink : Cond.fieldLink own index ref nm ds ∈ ol_all) (hsm : ref = dc ∨ Cond.sameField ref dc nm ds ∈ ol_all) (hin : meth.name = "<init>") (hdc : dc = own) (hn : narrow (ol_ty ci k) (va_rf r) = va_rf r ∧ fits (ol_ty ci k) (va_rf r) = true) (hdg : decode cc pc = .ok (.putfield index, 3)) (kk : ol_W p l e R s m args below meth c D cA A Q nL ro I (ol_u2 F a k r) cells slots (pc + 3) lv rest) : ol_W p l e R s m args below meth c D cA A Q nL ro I F cells slots pc lv (v :: .ref a :: rest) :=
  ol_putRF C hv hi.1 hi.2 hfd hk hlink hsm hin hdc hn.1 hn.2 hdg kk
theorem ol_tgI {a k index : Nat} {ref dc nm ds : String} {fin : Bool} {ty : FieldType} (C : ol_Cx p s m args c cc nL own D cA A) (ht : ol_th ro a) (hf : ol_tf k (dc, nm, ds, fin) false ty) (hlink : Cond.fieldLink own index ref nm ds ∈ ol_all) (hsm : ref = dc ∨ Cond.sameField ref dc nm ds ∈ ol_all) (hdg : decode cc pc = .ok (.getfield index, 3)) (kk : ol_W p l e R s m args below meth c D cA A Q nL ro I F cells slots (pc + 3) lv (.int (I a k) :: rest)) : ol_W p l e R s m args below meth c D cA A Q nL ro I F cells slots pc lv (.ref a :: rest) := by
  obtain ⟨h0, ci, h1, h2⟩ := ol_th_ct ht
  exact ol_getI C h0 h2 (hf ci h1).1 (hf ci h1).2.1 hlink hsm hdg kk
theorem ol_tgR {a k index : Nat} {ref dc nm ds : String} {fin : Bool} {ty : FieldType} (C : ol_Cx p s m args c cc nL own D cA A) (ht : ol_th ro a) (hf : ol_tf k (dc, nm, ds, fin) true ty) (hlink : Cond.fieldLink own index ref nm ds ∈ ol_all) (hsm : ref = dc ∨ Cond.sameField ref dc nm ds ∈ ol_all) (hdg : decode cc pc = .ok (.getfield index, 3)) (kk : ol_W p l e R s m args below meth c D cA A Q nL ro I F cells slots (pc + 3) lv (va_rf (F a k) :: rest)) : ol_W p l e R s m args below meth c D cA A Q nL ro I F cells slots pc lv (.ref a :: rest) := by
  obtain ⟨h0, ci, h1, h2⟩ := ol_th_ct ht
  exact ol_getR C h0 h2 (hf ci h1).1 (hf ci h1).2.1 hlink hsm hdg kk
theorem ol_tpI {a k index : Nat} {ref dc nm ds : String} {v : Int32} {ty : FieldType} (C : ol_Cx p s m args c cc nL own D cA A) (ht : ol_th ro a) (hf : ol_tf k (dc, nm, ds, false) false ty) (hlink : Cond.fieldLink own index ref nm ds ∈ ol_all) (hsm : ref = dc ∨ Cond.sameField ref dc nm ds ∈ ol_all) (hn : narrow ty (.int v) = .int v) (hfit : fits ty (.int v) = true) (hdg : decode cc pc = .ok (.putfield index, 3)) (kk : ol_W p l e R s m args below meth c D cA A Q nL ro (ol_u2 I a k v) F cells slots (pc + 3) lv rest) : ol_W p l e R s m args below meth c D cA A Q nL ro I F cells slots pc lv (.int v :: .ref a :: rest) := by
  obtain ⟨h0, ci, h1, h2⟩ := ol_th_ct ht
  exact ol_putI C h0 h2 (hf ci h1).1 (hf ci h1).2.1 hlink hsm (by rw [(hf ci h1).2.2]; exact hn) (by rw [(hf ci h1).2.2]; exact hfit) hdg kk
theorem ol_tpR {a k index : Nat} {ref dc nm ds : String} {r : Option Nat} {v : Value} {ty : FieldType} (C : ol_Cx p s m args c cc nL own D cA A) (hv : v = va_rf r) (ht : ol_th ro a) (hf : ol_tf k (dc, nm, ds, false) true ty) (hlink : Cond.fieldLink own index ref nm ds ∈ ol_all) (hsm : ref = dc ∨ Cond.sameField ref dc nm ds ∈ ol_all) (hn : narrow ty (va_rf r) = va_rf r ∧ fits ty (va_rf r) = true) (hdg : decode cc pc = .ok (.putfield index, 3)) (kk : ol_W p l e R s m args below meth c D cA A Q nL ro I (ol_u2 F a k r) cells slots (pc + 3) lv rest) : ol_W p l e R s m args below meth c D cA A Q nL ro I F cells slots pc lv (v :: .ref a :: rest) := by
  obtain ⟨h0, ci, h1, h2⟩ := ol_th_ct ht
  exact ol_putR C hv h0 h2 (hf ci h1).1 (hf ci h1).2.1 hlink hsm (by rw [(hf ci h1).2.2]; exact hn.1) (by rw [(hf ci h1).2.2]; exact hn.2) hdg kk
theorem ol_tpIF {a k index : Nat} {ref dc nm ds : String} {v : Int32} {ty : FieldType} (C : ol_Cx p s m args c cc nL own D cA A) (ht : ol_th ro a) (hf : ol_tf k (dc, nm, ds, true) false ty) (hlink : Cond.fieldLink own index ref nm ds ∈ ol_all) (hsm : ref = dc ∨ Cond.sameField ref dc nm ds ∈ ol_all) (hin : meth.name = "<init>") (hdc : dc = own) (hn : narrow ty (.int v) = .int v) (hfit : fits ty (.int v) = true) (hdg : decode cc pc = .ok (.putfield index, 3)) (kk : ol_W p l e R s m args below meth c D cA A Q nL ro (ol_u2 I a k v) F cells slots (pc + 3) lv rest) : ol_W p l e R s m args below meth c D cA A Q nL ro I F cells slots pc lv (.int v :: .ref a :: rest) := by
  obtain ⟨h0, ci, h1, h2⟩ := ol_th_ct ht
  exact ol_putIF C h0 h2 (hf ci h1).1 (hf ci h1).2.1 hlink hsm hin hdc (by rw [(hf ci h1).2.2]; exact hn) (by rw [(hf ci h1).2.2]; exact hfit) hdg kk
theorem ol_tpRF {a k index : Nat} {ref dc nm ds : String} {r : Option Nat} {v : Value} {ty : FieldType} (C : ol_Cx p s m args c cc nL own D cA A) (hv : v = va_rf r) (ht : ol_th ro a) (hf : ol_tf k (dc, nm, ds, true) true ty) (hlink : Cond.fieldLink own index ref nm ds ∈ ol_all) (hsm : ref = dc ∨ Cond.sameField ref dc nm ds ∈ ol_all) (hin : meth.name = "<init>") (hdc : dc = own) (hn : narrow ty (va_rf r) = va_rf r ∧ fits ty (va_rf r) = true) (hdg : decode cc pc = .ok (.putfield index, 3)) (kk : ol_W p l e R s m args below meth c D cA A Q nL ro I (ol_u2 F a k r) cells slots (pc + 3) lv rest) : ol_W p l e R s m args below meth c D cA A Q nL ro I F cells slots pc lv (v :: .ref a :: rest) := by
  obtain ⟨h0, ci, h1, h2⟩ := ol_th_ct ht
  exact ol_putRF C hv h0 h2 (hf ci h1).1 (hf ci h1).2.1 hlink hsm hin hdc (by rw [(hf ci h1).2.2]; exact hn.1) (by rw [(hf ci h1).2.2]; exact hn.2) hdg kk
/-! arrays at the number k -/
theorem ol_nin {i : Int32} {k n : Nat} (hik : i = nI k) (hk : k < n) (hn : n < 2 ^ 31) : vp_in i n ∧ i.toNatClampNeg = k := by
  subst hik
  exact ⟨vp_in_nI hk hn, nI_clamp (by omega)⟩
theorem ol_lI {a n : Nat} {i : Int32} (k : Nat) (C : ol_Cx p s m args c cc nL own D cA A) (hi : ol_is ro a (.inr (0, n))) (hik : i = nI k) (hk : k < n) (hn : n < 2 ^ 31) (hdg : decode cc pc = .ok (.iaload, 1)) (kk : ol_W p l e R s m args below meth c D cA A Q nL ro I F cells slots (pc + 1) lv (.int (I a k) :: rest)) : ol_W p l e R s m args below meth c D cA A Q nL ro I F cells slots pc lv (.int i :: .ref a :: rest) := by
  obtain ⟨h1, h2⟩ := ol_nin hik hk hn
  exact ol_iald C hi.1 hi.2 h1 hdg (by rw [h2]; exact kk)
theorem ol_lZ {a n : Nat} {i : Int32} (k : Nat) (C : ol_Cx p s m args c cc nL own D cA A) (hi : ol_is ro a (.inr (1, n))) (hik : i = nI k) (hk : k < n) (hn : n < 2 ^ 31) (hdg : decode cc pc = .ok (.baload, 1)) (kk : ol_W p l e R s m args below meth c D cA A Q nL ro I F cells slots (pc + 1) lv (.int (I a k) :: rest)) : ol_W p l e R s m args below meth c D cA A Q nL ro I F cells slots pc lv (.int i :: .ref a :: rest) := by
  obtain ⟨h1, h2⟩ := ol_nin hik hk hn
  exact ol_zald C hi.1 hi.2 h1 hdg (by rw [h2]; exact kk)
theorem ol_lT {a n : Nat} {i : Int32} (k : Nat) (C : ol_Cx p s m args c cc nL own D cA A) (hi : ol_is ro a (.inr (2, n))) (hik : i = nI k) (hk : k < n) (hn : n < 2 ^ 31) (hdg : decode cc pc = .ok (.aaload, 1)) (kk : ol_W p l e R s m args below meth c D cA A Q nL ro I F cells slots (pc + 1) lv (va_rf (F a k) :: rest)) : ol_W p l e R s m args below meth c D cA A Q nL ro I F cells slots pc lv (.int i :: .ref a :: rest) := by
  obtain ⟨h1, h2⟩ := ol_nin hik hk hn
  exact ol_aald C hi.1 hi.2 rfl rfl h1 hdg (by rw [h2]; exact kk)
theorem ol_lN {a n : Nat} {i : Int32} (k : Nat) (C : ol_Cx p s m args c cc nL own D cA A) (hi : ol_is ro a (.inr (3, n))) (hik : i = nI k) (hk : k < n) (hn : n < 2 ^ 31) (hdg : decode cc pc = .ok (.aaload, 1)) (kk : ol_W p l e R s m args below meth c D cA A Q nL ro I F cells slots (pc + 1) lv (va_rf (F a k) :: rest)) : ol_W p l e R s m args below meth c D cA A Q nL ro I F cells slots pc lv (.int i :: .ref a :: rest) := by
  obtain ⟨h1, h2⟩ := ol_nin hik hk hn
  exact ol_aald C hi.1 hi.2 rfl rfl h1 hdg (by rw [h2]; exact kk)
theorem ol_sI {a n : Nat} {i x : Int32} (k : Nat) (C : ol_Cx p s m args c cc nL own D cA A) (hi : ol_is ro a (.inr (0, n))) (hik : i = nI k) (hk : k < n) (hn : n < 2 ^ 31) (hdg : decode cc pc = .ok (.iastore, 1)) (kk : ol_W p l e R s m args below meth c D cA A Q nL ro (ol_u2 I a k x) F cells slots (pc + 1) lv rest) : ol_W p l e R s m args below meth c D cA A Q nL ro I F cells slots pc lv (.int x :: .int i :: .ref a :: rest) := by
  obtain ⟨h1, h2⟩ := ol_nin hik hk hn
  exact ol_iast C hi.1 hi.2 h1 hdg (by rw [h2]; exact kk)
theorem ol_sZ {a n : Nat} {i x : Int32} (k : Nat) (C : ol_Cx p s m args c cc nL own D cA A) (hi : ol_is ro a (.inr (1, n))) (hik : i = nI k) (hk : k < n) (hn : n < 2 ^ 31) (hx : vp_nar .boolean x = x) (hdg : decode cc pc = .ok (.bastore, 1)) (kk : ol_W p l e R s m args below meth c D cA A Q nL ro (ol_u2 I a k x) F cells slots (pc + 1) lv rest) : ol_W p l e R s m args below meth c D cA A Q nL ro I F cells slots pc lv (.int x :: .int i :: .ref a :: rest) := by
  obtain ⟨h1, h2⟩ := ol_nin hik hk hn
  exact ol_zast C hi.1 hi.2 h1 hx hdg (by rw [h2]; exact kk)
theorem ol_th_cast {b : Nat} (h : ol_th ro b) : ro b ≠ 0 ∧ ∃ ci q, ol_ct (ro b) = .inl ci ∧ ol_cl[ci]? = some q ∧ Cond.castable q.1 "ObjectLoads$Thing" ∈ ol_n1 := by
  obtain ⟨h1, h2⟩ := h
  refine ⟨by omega, ?_⟩
  have h3 : ro b = 2 ∨ ro b = 3 ∨ ro b = 4 ∨ ro b = 5 ∨ ro b = 6 ∨ ro b = 7 ∨ ro b = 8 := by omega
  rcases h3 with h | h | h | h | h | h | h <;> rw [h] <;> exact ⟨_, _, rfl, rfl, by decide⟩
theorem ol_nd_cast {b : Nat} (h : ol_th ro b) (hb : ro b ≠ 4) : ro b ≠ 0 ∧ ∃ ci q, ol_ct (ro b) = .inl ci ∧ ol_cl[ci]? = some q ∧ Cond.castable q.1 "ObjectLoads$Node" ∈ ol_n1 := by
  obtain ⟨h1, h2⟩ := h
  refine ⟨by omega, ?_⟩
  have h3 : ro b = 2 ∨ ro b = 3 ∨ ro b = 5 ∨ ro b = 6 ∨ ro b = 7 ∨ ro b = 8 := by omega
  rcases h3 with h | h | h | h | h | h <;> rw [h] <;> exact ⟨_, _, rfl, rfl, by decide⟩
theorem ol_sT {a n : Nat} {i : Int32} {r : Option Nat} {v : Value} (k : Nat) (C : ol_Cx p s m args c cc nL own D cA A) (hv : v = va_rf r) (hi : ol_is ro a (.inr (2, n))) (hik : i = nI k) (hk : k < n) (hn : n < 2 ^ 31) (hc : ∀ b, r = some b → ol_th ro b) (hdg : decode cc pc = .ok (.aastore, 1)) (kk : ol_W p l e R s m args below meth c D cA A Q nL ro I (ol_u2 F a k r) cells slots (pc + 1) lv rest) : ol_W p l e R s m args below meth c D cA A Q nL ro I F cells slots pc lv (v :: .int i :: .ref a :: rest) := by
  obtain ⟨h1, h2⟩ := ol_nin hik hk hn
  exact ol_aast C hv hi.1 hi.2 rfl rfl h1 (fun b hb => ol_th_cast (hc b hb)) hdg (by rw [h2]; exact kk)
theorem ol_sN {a n : Nat} {i : Int32} {r : Option Nat} {v : Value} (k : Nat) (C : ol_Cx p s m args c cc nL own D cA A) (hv : v = va_rf r) (hi : ol_is ro a (.inr (3, n))) (hik : i = nI k) (hk : k < n) (hn : n < 2 ^ 31) (hc : ∀ b, r = some b → ol_th ro b ∧ ro b ≠ 4) (hdg : decode cc pc = .ok (.aastore, 1)) (kk : ol_W p l e R s m args below meth c D cA A Q nL ro I (ol_u2 F a k r) cells slots (pc + 1) lv rest) : ol_W p l e R s m args below meth c D cA A Q nL ro I F cells slots pc lv (v :: .int i :: .ref a :: rest) := by
  obtain ⟨h1, h2⟩ := ol_nin hik hk hn
  exact ol_aast C hv hi.1 hi.2 rfl rfl h1 (fun b hb => ol_nd_cast (hc b hb).1 (hc b hb).2) hdg (by rw [h2]; exact kk)
/-! what is behind a call, by the kind of its answer -/
theorem ol_ki {rest : List Value} {cells slots pc : Nat} {post : Int32 → (Nat → Nat) → (Nat → Nat → Int32) → (Nat → Nat → Option Nat) → Prop} (kk : ∀ (r : Int32) (ro' : Nat → Nat) (I' : Nat → Nat → Int32) (F' : Nat → Nat → Option Nat), post r ro' I' F' → ol_W p l e R s m args below meth c D cA A Q nL ro' I' F' cells slots pc lv (.int r :: rest)) : ∀ (v : Option Value) (ro' : Nat → Nat) (I' : Nat → Nat → Int32) (F' : Nat → Nat → Option Nat), (∃ r, v = some (.int r) ∧ post r ro' I' F') → ol_W p l e R s m args below meth c D cA A Q nL ro' I' F' cells slots pc lv (v.toList ++ rest) := by
  rintro v ro' I' F' ⟨r, rfl, h⟩
  exact kk r ro' I' F' h
theorem ol_kq {rest : List Value} {cells slots pc : Nat} {post : Option Nat → (Nat → Nat) → (Nat → Nat → Int32) → (Nat → Nat → Option Nat) → Prop} (kk : ∀ (r : Option Nat) (ro' : Nat → Nat) (I' : Nat → Nat → Int32) (F' : Nat → Nat → Option Nat), post r ro' I' F' → ol_W p l e R s m args below meth c D cA A Q nL ro' I' F' cells slots pc lv (va_rf r :: rest)) : ∀ (v : Option Value) (ro' : Nat → Nat) (I' : Nat → Nat → Int32) (F' : Nat → Nat → Option Nat), (∃ r, v = some (va_rf r) ∧ post r ro' I' F') → ol_W p l e R s m args below meth c D cA A Q nL ro' I' F' cells slots pc lv (v.toList ++ rest) := by
  rintro v ro' I' F' ⟨r, rfl, h⟩
  exact kk r ro' I' F' h
theorem ol_kv {rest : List Value} {cells slots pc : Nat} {post : (Nat → Nat) → (Nat → Nat → Int32) → (Nat → Nat → Option Nat) → Prop} (kk : ∀ (ro' : Nat → Nat) (I' : Nat → Nat → Int32) (F' : Nat → Nat → Option Nat), post ro' I' F' → ol_W p l e R s m args below meth c D cA A Q nL ro' I' F' cells slots pc lv rest) : ∀ (v : Option Value) (ro' : Nat → Nat) (I' : Nat → Nat → Int32) (F' : Nat → Nat → Option Nat), (v = none ∧ post ro' I' F') → ol_W p l e R s m args below meth c D cA A Q nL ro' I' F' cells slots pc lv (v.toList ++ rest) := by
  rintro v ro' I' F' ⟨rfl, h⟩
  exact kk ro' I' F' h
end OLS
/-- exact contracts: the answer, the roles, the ints, the references behind the call -/
def ol_ei (r : Int32) (ro : Nat → Nat) (I : Nat → Nat → Int32) (F : Nat → Nat → Option Nat) : Option Value → (Nat → Nat) → (Nat → Nat → Int32) → (Nat → Nat → Option Nat) → Prop := fun v ro' I' F' => v = some (.int r) ∧ ro' = ro ∧ I' = I ∧ F' = F
def ol_eq (r : Option Nat) (ro : Nat → Nat) (I : Nat → Nat → Int32) (F : Nat → Nat → Option Nat) : Option Value → (Nat → Nat) → (Nat → Nat → Int32) → (Nat → Nat → Option Nat) → Prop := fun v ro' I' F' => v = some (va_rf r) ∧ ro' = ro ∧ I' = I ∧ F' = F
def ol_ev (ro : Nat → Nat) (I : Nat → Nat → Int32) (F : Nat → Nat → Option Nat) : Option Value → (Nat → Nat) → (Nat → Nat → Int32) → (Nat → Nat → Option Nat) → Prop := fun v ro' I' F' => v = none ∧ ro' = ro ∧ I' = I ∧ F' = F
section OLX
variable {p : Program} {l : Launch} {e : Env} {R : Room} {s : State} {m : MethodId} {args : Array Value} {below : List Frame} {meth : Method} {c : Code} {D : va_G} {cA : Nat → ClassId} {A : Nat → Prop} {Q : State → Prop} {nL : Nat} {ro : Nat → Nat} {I : Nat → Nat → Int32} {F : Nat → Nat → Option Nat} {cells slots pc : Nat} {lv : List (Option Value)} {rest : List Value}
theorem ol_xi {r : Int32} (kk : ol_W p l e R s m args below meth c D cA A Q nL ro I F cells slots pc lv (.int r :: rest)) : ∀ (v : Option Value) (ro' : Nat → Nat) (I' : Nat → Nat → Int32) (F' : Nat → Nat → Option Nat), ol_ei r ro I F v ro' I' F' → ol_W p l e R s m args below meth c D cA A Q nL ro' I' F' cells slots pc lv (v.toList ++ rest) := by
  rintro v ro' I' F' ⟨rfl, rfl, rfl, rfl⟩
  exact kk
theorem ol_xq {r : Option Nat} (kk : ol_W p l e R s m args below meth c D cA A Q nL ro I F cells slots pc lv (va_rf r :: rest)) : ∀ (v : Option Value) (ro' : Nat → Nat) (I' : Nat → Nat → Int32) (F' : Nat → Nat → Option Nat), ol_eq r ro I F v ro' I' F' → ol_W p l e R s m args below meth c D cA A Q nL ro' I' F' cells slots pc lv (v.toList ++ rest) := by
  rintro v ro' I' F' ⟨rfl, rfl, rfl, rfl⟩
  exact kk
theorem ol_xv (kk : ol_W p l e R s m args below meth c D cA A Q nL ro I F cells slots pc lv rest) : ∀ (v : Option Value) (ro' : Nat → Nat) (I' : Nat → Nat → Int32) (F' : Nat → Nat → Option Nat), ol_ev ro I F v ro' I' F' → ol_W p l e R s m args below meth c D cA A Q nL ro' I' F' cells slots pc lv (v.toList ++ rest) := by
  rintro v ro' I' F' ⟨rfl, rfl, rfl, rfl⟩
  exact kk
end OLX
end
section
abbrev ol_r (h cells slots : Nat) : Room := { frames := h, cells := cells, slots := slots, locals := 32 * h }
/-- 1 if it holds, else 0 -/
noncomputable def ol_p (P : Prop) : Int32 := @ite Int32 P (Classical.propDecidable P) 1 0
theorem ol_p_t {P : Prop} (h : P) : ol_p P = 1 := by unfold ol_p; exact if_pos h
theorem ol_p_f {P : Prop} (h : ¬ P) : ol_p P = 0 := by unfold ol_p; exact if_neg h
theorem ol_p_0 {P : Prop} : ol_p P = 0 ↔ ¬ P := by
  constructor
  · intro h hp
    rw [ol_p_t hp] at h
    exact absurd h (by decide)
  · exact ol_p_f
theorem ol_p_n {P : Prop} : ¬ ol_p P = 0 ↔ P := by
  rw [ol_p_0]
  exact ⟨fun h => Classical.byContradiction h, fun h q => q h⟩
theorem ol_p_or (P : Prop) : (P ∧ ol_p P = 1) ∨ (¬ P ∧ ol_p P = 0) := by
  by_cases h : P
  · exact Or.inl ⟨h, ol_p_t h⟩
  · exact Or.inr ⟨h, ol_p_f h⟩
theorem ol_p_nar (P : Prop) : narrow .boolean (.int (ol_p P)) = .int (ol_p P) := by rcases ol_p_or P with ⟨-, h⟩ | ⟨-, h⟩ <;> rw [h] <;> rfl
theorem ol_p_fit (P : Prop) : fits .boolean (.int (ol_p P)) = true := by rcases ol_p_or P with ⟨-, h⟩ | ⟨-, h⟩ <;> rw [h] <;> rfl
theorem ol_p_np (P : Prop) : vp_nar .boolean (ol_p P) = ol_p P := by rcases ol_p_or P with ⟨-, h⟩ | ⟨-, h⟩ <;> rw [h] <;> rfl
noncomputable def ol_if {α : Type} (P : Prop) (a b : α) : α := @ite α P (Classical.propDecidable P) a b
theorem ol_if_t {α : Type} {P : Prop} {a b : α} (h : P) : ol_if P a b = a := by unfold ol_if; exact if_pos h
theorem ol_if_f {α : Type} {P : Prop} {a b : α} (h : ¬ P) : ol_if P a b = b := by unfold ol_if; exact if_neg h
section OLT
variable {p : Program} {l : Launch} {e : Env} {R : Room} {s : State} {m : MethodId} {args : Array Value} {below : List Frame} {meth : Method} {c : Code} {D : va_G} {cA : Nat → ClassId} {A : Nat → Prop} {Q : State → Prop} {nL : Nat} {ro : Nat → Nat} {I : Nat → Nat → Int32} {F : Nat → Nat → Option Nat} {cells slots pc : Nat} {lv : List (Option Value)} {rest : List Value} {cc : ByteArray} {own : String}
theorem ol_iinc1 {i : Nat} {x : Int32} (C : ol_Cx p s m args c cc nL own D cA A) (hdg : decode cc pc = .ok (.iinc i 1, 3)) (hx : lv[i]? = some (some (.int x))) (hn : i < nL) (kk : ol_W p l e R s m args below meth c D cA A Q nL ro I F cells slots (pc + 3) (lv.set i (some (.int (x + 1)))) rest) : ol_W p l e R s m args below meth c D cA A Q nL ro I F cells slots pc lv rest := ol_iinc C hdg hx rfl hn kk
theorem ol_iincN {i k : Nat} (C : ol_Cx p s m args c cc nL own D cA A) (hdg : decode cc pc = .ok (.iinc i 1, 3)) (hx : lv[i]? = some (some (.int (nI k)))) (hn : i < nL) (kk : ol_W p l e R s m args below meth c D cA A Q nL ro I F cells slots (pc + 3) (lv.set i (some (.int (nI (k + 1))))) rest) : ol_W p l e R s m args below meth c D cA A Q nL ro I F cells slots pc lv rest := ol_iinc C hdg hx (nI_1 k) hn kk
theorem ol_oinit {index a : Nat} (C : ol_Cx p s m args c cc nL own D cA A) (hlink : Cond.methodLink own index ⟨"java/lang/Object", "<init>", "()V"⟩ ∈ ol_all) (hdg : decode cc pc = .ok (.invokespecial index, 3)) (hf : 1 ≤ R.frames) (hlo : 20 ≤ R.locals) (hW : (rest.map fun v => v.category).sum ≤ 8) (kk : ol_W p l e R s m args below meth c D cA A Q nL ro I F cells slots (pc + 3) lv rest) : ol_W p l e R s m args below meth c D cA A Q nL ro I F cells slots pc lv (.ref a :: rest) := by
  intro H locs ls hP hS hl
  have hr := lv_room (m := m) (pc := pc) (ls := ls) (rest := .ref a :: rest) hW
  refine W.objInit C.1 C.2.1 C.2.2.2.1 (C.2.2.2.2.1 _ hlink) (C.2.2.2.2.1 _ wd_20) (C.2.2.2.2.1 _ wd_21) rfl (by rw [C.2.2.1]; exact hl.1.1) rfl hdg hf (by omega) ?_
  exact kk H locs ls hP hS hl
end OLT
theorem ol_pt {P : Prop} (h : P) : some (Value.int 1) = some (Value.int (ol_p P)) := by rw [ol_p_t h]
theorem ol_pf {P : Prop} (h : ¬ P) : some (Value.int 0) = some (Value.int (ol_p P)) := by rw [ol_p_f h]
theorem ol_it {P : Prop} {a b : Int32} (h : P) : some (Value.int a) = some (Value.int (ol_if P a b)) := by rw [ol_if_t h]
theorem ol_iff {P : Prop} {a b : Int32} (h : ¬ P) : some (Value.int b) = some (Value.int (ol_if P a b)) := by rw [ol_if_f h]
theorem ol_itq {P : Prop} {a b : Option Nat} (h : P) : some (va_rf a) = some (va_rf (ol_if P a b)) := by rw [ol_if_t h]
theorem ol_ifq {P : Prop} {a b : Option Nat} (h : ¬ P) : some (va_rf b) = some (va_rf (ol_if P a b)) := by rw [ol_if_f h]
theorem ol_ix {n t : Int32} {k : Nat} (h : ¬ n < 0 ∧ ¬ t ≤ n) (hk : t = nI k) (h40 : k ≤ 40) : ∃ j, j < k ∧ n = nI j := by
  subst hk
  obtain ⟨j, h1, h2⟩ := pk_mu h.1 h.2 (by omega)
  exact ⟨j, h1, h2.1⟩
end
section
theorem mh_X0_init : ol_mh yX0_init 3 := by decide +kernel
theorem mh_X0_linkCount : ol_mh yX0_linkCount 0 := by decide +kernel
theorem mh_X0_otherEnd : ol_mh yX0_otherEnd 1 := by decide +kernel
theorem mh_X1_init : ol_mh yX1_init 3 := by decide +kernel
theorem mh_X1_valueCause : ol_mh yX1_valueCause 0 := by decide +kernel
theorem mh_X1_toldValue : ol_mh yX1_toldValue 0 := by decide +kernel
theorem mh_X2_init : ol_mh yX2_init 3 := by decide +kernel
theorem mh_X2_toldValue : ol_mh yX2_toldValue 0 := by decide +kernel
theorem mhs_X2_toldValue : yX2_toldValue.name ≠ "<init>" ∧ (parseMethodDescriptor yX2_toldValue.desc).map (fun d => d.parameters.length) = some 0 := by decide +kernel
theorem mh_X2_linkCount : ol_mh yX2_linkCount 0 := by decide +kernel
theorem mh_X2_link : ol_mh yX2_link 1 := by decide +kernel
theorem mhs_X2_link : yX2_link.name ≠ "<init>" ∧ (parseMethodDescriptor yX2_link.desc).map (fun d => d.parameters.length) = some 1 := by decide +kernel
theorem mh_X3_init : ol_mh yX3_init 3 := by decide +kernel
theorem mh_X3_keyCause : ol_mh yX3_keyCause 0 := by decide +kernel
theorem mh_X4_init : ol_mh yX4_init 0 := by decide +kernel
theorem mh_X4_makeEmpty : ol_mh yX4_makeEmpty 0 := by decide +kernel
theorem mh_X4_hasNode : ol_mh yX4_hasNode 1 := by decide +kernel
theorem mh_X4_arcsOf : ol_mh yX4_arcsOf 1 := by decide +kernel
theorem mh_X4_findNode : ol_mh yX4_findNode 1 := by decide +kernel
theorem mh_X4_addArc : ol_mh yX4_addArc 3 := by decide +kernel
theorem mh_X4_endArcsOf : ol_mh yX4_endArcsOf 1 := by decide +kernel
theorem mh_X4_shortestWay : ol_mh yX4_shortestWay 2 := by decide +kernel
theorem mh_X5_init : ol_mh yX5_init 3 := by decide +kernel
theorem mh_X5_toldValue : ol_mh yX5_toldValue 0 := by decide +kernel
theorem mh_X5_linksCause : ol_mh yX5_linksCause 0 := by decide +kernel
theorem mh_X6_init : ol_mh yX6_init 3 := by decide +kernel
theorem mh_X7_init : ol_mh yX7_init 3 := by decide +kernel
theorem mh_X7_linksCause : ol_mh yX7_linksCause 0 := by decide +kernel
theorem mh_X7_linkCount : ol_mh yX7_linkCount 0 := by decide +kernel
theorem mh_X7_link : ol_mh yX7_link 1 := by decide +kernel
theorem mh_X8_init : ol_mh yX8_init 3 := by decide +kernel
theorem mh_X8_toldValue : ol_mh yX8_toldValue 0 := by decide +kernel
theorem mh_X8_linksCause : ol_mh yX8_linksCause 0 := by decide +kernel
theorem mh_X8_linkCount : ol_mh yX8_linkCount 0 := by decide +kernel
theorem mh_X8_link : ol_mh yX8_link 1 := by decide +kernel
theorem mh_X9_init : ol_mh yX9_init 3 := by decide +kernel
theorem mh_X9_keyCause : ol_mh yX9_keyCause 0 := by decide +kernel
theorem mh_X9_toldKey : ol_mh yX9_toldKey 0 := by decide +kernel
theorem mh_X9_valueCause : ol_mh yX9_valueCause 0 := by decide +kernel
theorem mh_X9_toldValue : ol_mh yX9_toldValue 0 := by decide +kernel
theorem mh_X9_linksCause : ol_mh yX9_linksCause 0 := by decide +kernel
theorem mh_X10_init : ol_mh yX10_init 0 := by decide +kernel
theorem mh_X10_thing : ol_mh yX10_thing 3 := by decide +kernel
theorem mh_X10_value : ol_mh yX10_value 2 := by decide +kernel
theorem mh_X10_key : ol_mh yX10_key 2 := by decide +kernel
theorem mh_X10_next : ol_mh yX10_next 2 := by decide +kernel
theorem mh_X10_place : ol_mh yX10_place 3 := by decide +kernel
theorem mh_X10_hold : ol_mh yX10_hold 2 := by decide +kernel
theorem mh_X10_copy : ol_mh yX10_copy 5 := by decide +kernel
theorem mh_X10_load : ol_mh yX10_load 2 := by decide +kernel
theorem mh_X10_refused : ol_mh yX10_refused 1 := by decide +kernel
theorem mh_X10_node : ol_mh yX10_node 1 := by decide +kernel
theorem mh_X10_of : ol_mh yX10_of 1 := by decide +kernel
theorem mh_X10_column : ol_mh yX10_column 1 := by decide +kernel
theorem mh_X10_arcs : ol_mh yX10_arcs 1 := by decide +kernel
theorem mh_X10_arc : ol_mh yX10_arc 3 := by decide +kernel
theorem mh_X10_way : ol_mh yX10_way 2 := by decide +kernel
theorem mh_X10_holes : ol_mh yX10_holes 0 := by decide +kernel
theorem mh_X10_asked : ol_mh yX10_asked 1 := by decide +kernel
theorem mh_X10_tells : ol_mh yX10_tells 2 := by decide +kernel
theorem mh_X10_is : ol_mh yX10_is 2 := by decide +kernel
theorem mh_X10_count : ol_mh yX10_count 1 := by decide +kernel
theorem mh_X10_clear : ol_mh yX10_clear 0 := by decide +kernel
theorem mh_X10_newThing : ol_mh yX10_newThing 4 := by decide +kernel
theorem mh_X10_isThing : ol_mh yX10_isThing 1 := by decide +kernel
theorem mh_X10_isThingOrNone : ol_mh yX10_isThingOrNone 1 := by decide +kernel
theorem mh_X10_known : ol_mh yX10_known 1 := by decide +kernel
theorem mh_X10_isPlace : ol_mh yX10_isPlace 1 := by decide +kernel
theorem mh_X10_isStretch : ol_mh yX10_isStretch 2 := by decide +kernel
theorem mh_X10_asNumber : ol_mh yX10_asNumber 1 := by decide +kernel
theorem mh_X10_toldOrFailed : ol_mh yX10_toldOrFailed 2 := by decide +kernel
theorem mh_X10_countUpToBridge : ol_mh yX10_countUpToBridge 3 := by decide +kernel
theorem mh_X10_copyStretch : ol_mh yX10_copyStretch 5 := by decide +kernel
theorem mh_X10_endLoad : ol_mh yX10_endLoad 3 := by decide +kernel
theorem mh_X10_failed : ol_mh yX10_failed 2 := by decide +kernel
theorem mh_X10_build : ol_mh yX10_build 2 := by decide +kernel
theorem mh_X10_askKey : ol_mh yX10_askKey 2 := by decide +kernel
theorem mh_X10_askValue : ol_mh yX10_askValue 2 := by decide +kernel
theorem mh_X10_askLinks : ol_mh yX10_askLinks 2 := by decide +kernel
theorem mh_X10_follow : ol_mh yX10_follow 2 := by decide +kernel
theorem mh_X10_cross : ol_mh yX10_cross 2 := by decide +kernel
theorem mh_X11_init : ol_mh yX11_init 0 := by decide +kernel
theorem mh_X11_in : ol_mh yX11_in 3 := by decide +kernel
theorem mh_X11_isThing : ol_mh yX11_isThing 1 := by decide +kernel
theorem mh_X11_thing : ol_mh yX11_thing 3 := by decide +kernel
theorem mh_X11_value : ol_mh yX11_value 2 := by decide +kernel
theorem mh_X11_key : ol_mh yX11_key 2 := by decide +kernel
theorem mh_X11_next : ol_mh yX11_next 2 := by decide +kernel
theorem mh_X11_place : ol_mh yX11_place 3 := by decide +kernel
theorem mh_X11_hold : ol_mh yX11_hold 2 := by decide +kernel
theorem mh_X11_isBridge : ol_mh yX11_isBridge 1 := by decide +kernel
theorem mh_X11_copy : ol_mh yX11_copy 5 := by decide +kernel
theorem mh_X11_tellKey : ol_mh yX11_tellKey 1 := by decide +kernel
theorem mh_X11_tellValue : ol_mh yX11_tellValue 1 := by decide +kernel
theorem mh_X11_tellLinks : ol_mh yX11_tellLinks 1 := by decide +kernel
theorem mh_X11_tellEnd : ol_mh yX11_tellEnd 2 := by decide +kernel
theorem mh_X11_refuse : ol_mh yX11_refuse 3 := by decide +kernel
theorem mh_X11_found : ol_mh yX11_found 2 := by decide +kernel
theorem mh_X11_ask : ol_mh yX11_ask 3 := by decide +kernel
theorem mh_X11_arcsOf : ol_mh yX11_arcsOf 2 := by decide +kernel
theorem mh_X11_load : ol_mh yX11_load 2 := by decide +kernel
theorem mh_X11_refused : ol_mh yX11_refused 1 := by decide +kernel
theorem mh_X11_node : ol_mh yX11_node 1 := by decide +kernel
theorem mh_X11_isNode : ol_mh yX11_isNode 1 := by decide +kernel
theorem mh_X11_of : ol_mh yX11_of 1 := by decide +kernel
theorem mh_X11_column : ol_mh yX11_column 1 := by decide +kernel
theorem mh_X11_arcs : ol_mh yX11_arcs 1 := by decide +kernel
theorem mh_X11_arc : ol_mh yX11_arc 3 := by decide +kernel
theorem mh_X11_way : ol_mh yX11_way 2 := by decide +kernel
theorem mh_X11_holes : ol_mh yX11_holes 0 := by decide +kernel
theorem mh_X11_asked : ol_mh yX11_asked 1 := by decide +kernel
theorem mh_X11_tells : ol_mh yX11_tells 2 := by decide +kernel
theorem mh_X11_is : ol_mh yX11_is 2 := by decide +kernel
theorem mh_X11_count : ol_mh yX11_count 1 := by decide +kernel
theorem mh_X11_beginAll : ol_mh yX11_beginAll 0 := by decide +kernel
theorem mh_X11_clear : ol_mh yX11_clear 0 := by decide +kernel
theorem mh_J7_fill_53178 : ol_mh yJ7_fill_53178 2 := by decide +kernel
theorem mhu_ObjectLoads_Thing_keyCause : "ObjectLoads$Thing" ≠ "java/lang/invoke/MethodHandle" ∧ "ObjectLoads$Thing" ≠ "java/lang/invoke/VarHandle" ∧ (parseMethodDescriptor "()I").map (fun d => d.parameters.length) = some 0 := by decide +kernel
theorem mhu_ObjectLoads_Thing_toldKey : "ObjectLoads$Thing" ≠ "java/lang/invoke/MethodHandle" ∧ "ObjectLoads$Thing" ≠ "java/lang/invoke/VarHandle" ∧ (parseMethodDescriptor "()I").map (fun d => d.parameters.length) = some 0 := by decide +kernel
theorem mhu_ObjectLoads_Thing_valueCause : "ObjectLoads$Thing" ≠ "java/lang/invoke/MethodHandle" ∧ "ObjectLoads$Thing" ≠ "java/lang/invoke/VarHandle" ∧ (parseMethodDescriptor "()I").map (fun d => d.parameters.length) = some 0 := by decide +kernel
theorem mhu_ObjectLoads_Thing_toldValue : "ObjectLoads$Thing" ≠ "java/lang/invoke/MethodHandle" ∧ "ObjectLoads$Thing" ≠ "java/lang/invoke/VarHandle" ∧ (parseMethodDescriptor "()I").map (fun d => d.parameters.length) = some 0 := by decide +kernel
theorem mhu_ObjectLoads_Thing_linksCause : "ObjectLoads$Thing" ≠ "java/lang/invoke/MethodHandle" ∧ "ObjectLoads$Thing" ≠ "java/lang/invoke/VarHandle" ∧ (parseMethodDescriptor "()I").map (fun d => d.parameters.length) = some 0 := by decide +kernel
theorem mhu_ObjectLoads_Thing_linkCount : "ObjectLoads$Thing" ≠ "java/lang/invoke/MethodHandle" ∧ "ObjectLoads$Thing" ≠ "java/lang/invoke/VarHandle" ∧ (parseMethodDescriptor "()I").map (fun d => d.parameters.length) = some 0 := by decide +kernel
theorem mhu_ObjectLoads_Node_keyCause : "ObjectLoads$Thing" ≠ "java/lang/invoke/MethodHandle" ∧ "ObjectLoads$Thing" ≠ "java/lang/invoke/VarHandle" ∧ (parseMethodDescriptor "()I").map (fun d => d.parameters.length) = some 0 := by decide +kernel
theorem mhu_ObjectLoads_Node_toldKey : "ObjectLoads$Thing" ≠ "java/lang/invoke/MethodHandle" ∧ "ObjectLoads$Thing" ≠ "java/lang/invoke/VarHandle" ∧ (parseMethodDescriptor "()I").map (fun d => d.parameters.length) = some 0 := by decide +kernel
theorem mhu_ObjectLoads_Node_valueCause : "ObjectLoads$Thing" ≠ "java/lang/invoke/MethodHandle" ∧ "ObjectLoads$Thing" ≠ "java/lang/invoke/VarHandle" ∧ (parseMethodDescriptor "()I").map (fun d => d.parameters.length) = some 0 := by decide +kernel
theorem mhu_ObjectLoads_Node_toldValue : "ObjectLoads$Thing" ≠ "java/lang/invoke/MethodHandle" ∧ "ObjectLoads$Thing" ≠ "java/lang/invoke/VarHandle" ∧ (parseMethodDescriptor "()I").map (fun d => d.parameters.length) = some 0 := by decide +kernel
theorem mhu_ObjectLoads_Node_linksCause : "ObjectLoads$Thing" ≠ "java/lang/invoke/MethodHandle" ∧ "ObjectLoads$Thing" ≠ "java/lang/invoke/VarHandle" ∧ (parseMethodDescriptor "()I").map (fun d => d.parameters.length) = some 0 := by decide +kernel
theorem mhu_ObjectLoads_Node_linkCount : "ObjectLoads$Thing" ≠ "java/lang/invoke/MethodHandle" ∧ "ObjectLoads$Thing" ≠ "java/lang/invoke/VarHandle" ∧ (parseMethodDescriptor "()I").map (fun d => d.parameters.length) = some 0 := by decide +kernel
theorem mhu_ObjectLoads_Node_link : "ObjectLoads$Node" ≠ "java/lang/invoke/MethodHandle" ∧ "ObjectLoads$Node" ≠ "java/lang/invoke/VarHandle" ∧ (parseMethodDescriptor "(I)LObjectLoads$Thing;").map (fun d => d.parameters.length) = some 1 := by decide +kernel
theorem mhu_ObjectLoads_Bridge_toldValue : "ObjectLoads$Thing" ≠ "java/lang/invoke/MethodHandle" ∧ "ObjectLoads$Thing" ≠ "java/lang/invoke/VarHandle" ∧ (parseMethodDescriptor "()I").map (fun d => d.parameters.length) = some 0 := by decide +kernel
end
section
set_option maxRecDepth 100000 in
set_option maxHeartbeats 4000000 in
theorem m_isThing (l : Launch) (D : va_G) (cA : Nat → ClassId) {ro : Nat → Nat} {I : Nat → Nat → Int32} {F : Nat → Nat → Option Nat} {x : Nat} (hx : ol_is ro x (.inl 0)) (n : Int32) : ol_M l D cA yX10_isThing cX10_isThing 2 (some FieldType.boolean) (ol_r 0 0 0) [.ref x, .int n] ro I F (ol_ei (ol_p (¬ n < 0 ∧ ¬ I x 1 ≤ n)) ro I F) := by
  refine ol_M.of (by decide +kernel) (Nat.le_of_ble_eq_true rfl) (by simp [Value.category, ol_rfc]) ?_
  intro p e s m args below meth c C hret hlk hin
  refine ol_iload_n C dX10_isThing_0 rfl rfl ?_
  refine ol_if_lt (tgt := 16) C dX10_isThing_1 (by decide) (fun c_1 => ?_) (fun c_1 => ?_)
  · refine ol_iconst (v := 0) C dX10_isThing_16 (by decide) ?_
    exact ol_iret C hret hlk rfl (by decide) (by decide) dX10_isThing_17 ⟨by first | exact ol_pt ⟨c_1, c_9⟩ | exact ol_pf (fun q => q.1 c_1) | exact ol_pf (fun q => q.2 c_9), rfl, rfl, rfl⟩
  · refine ol_iload_n C dX10_isThing_4 rfl rfl ?_
    refine ol_aload_n C dX10_isThing_5 rfl rfl (by first | exact ol_isq_r _ | exact ol_isq_q _ | exact ol_isq_n) ?_
    refine ol_gI (k := 1) C (by assumption) rfl rfl wd_87 (.inl rfl) dX10_isThing_6 ?_
    refine ol_icmp_ge (tgt := 16) C dX10_isThing_9 (by decide) (fun c_9 => ?_) (fun c_9 => ?_)
    · refine ol_iconst (v := 0) C dX10_isThing_16 (by decide) ?_
      exact ol_iret C hret hlk rfl (by decide) (by decide) dX10_isThing_17 ⟨by first | exact ol_pt ⟨c_1, c_9⟩ | exact ol_pf (fun q => q.1 c_1) | exact ol_pf (fun q => q.2 c_9), rfl, rfl, rfl⟩
    · refine ol_iconst (v := 1) C dX10_isThing_12 (by decide) ?_
      refine ol_goto (tgt := 17) C dX10_isThing_13 (by decide) ?_
      exact ol_iret C hret hlk rfl (by decide) (by decide) dX10_isThing_17 ⟨by first | exact ol_pt ⟨c_1, c_9⟩ | exact ol_pf (fun q => q.1 c_1) | exact ol_pf (fun q => q.2 c_9), rfl, rfl, rfl⟩

set_option maxRecDepth 100000 in
set_option maxHeartbeats 4000000 in
theorem m_isPlace (l : Launch) (D : va_G) (cA : Nat → ClassId) {ro : Nat → Nat} {I : Nat → Nat → Int32} {F : Nat → Nat → Option Nat} (n : Int32) : ol_M l D cA yX10_isPlace cX10_isPlace 1 (some FieldType.boolean) (ol_r 0 0 0) [.int n] ro I F (ol_ei (ol_p (¬ n < 0 ∧ ¬ 6 ≤ n)) ro I F) := by
  refine ol_M.of (by decide +kernel) (Nat.le_of_ble_eq_true rfl) (by simp [Value.category, ol_rfc]) ?_
  intro p e s m args below meth c C hret hlk hin
  refine ol_iload_n C dX10_isPlace_0 rfl rfl ?_
  refine ol_if_lt (tgt := 14) C dX10_isPlace_1 (by decide) (fun c_1 => ?_) (fun c_1 => ?_)
  · refine ol_iconst (v := 0) C dX10_isPlace_14 (by decide) ?_
    exact ol_iret C hret hlk rfl (by decide) (by decide) dX10_isPlace_15 ⟨by first | exact ol_pt ⟨c_1, c_7⟩ | exact ol_pf (fun q => q.1 c_1) | exact ol_pf (fun q => q.2 c_7), rfl, rfl, rfl⟩
  · refine ol_iload_n C dX10_isPlace_4 rfl rfl ?_
    refine ol_bipush (v := 6) C dX10_isPlace_5 (by decide) ?_
    refine ol_icmp_ge (tgt := 14) C dX10_isPlace_7 (by decide) (fun c_7 => ?_) (fun c_7 => ?_)
    · refine ol_iconst (v := 0) C dX10_isPlace_14 (by decide) ?_
      exact ol_iret C hret hlk rfl (by decide) (by decide) dX10_isPlace_15 ⟨by first | exact ol_pt ⟨c_1, c_7⟩ | exact ol_pf (fun q => q.1 c_1) | exact ol_pf (fun q => q.2 c_7), rfl, rfl, rfl⟩
    · refine ol_iconst (v := 1) C dX10_isPlace_10 (by decide) ?_
      refine ol_goto (tgt := 15) C dX10_isPlace_11 (by decide) ?_
      exact ol_iret C hret hlk rfl (by decide) (by decide) dX10_isPlace_15 ⟨by first | exact ol_pt ⟨c_1, c_7⟩ | exact ol_pf (fun q => q.1 c_1) | exact ol_pf (fun q => q.2 c_7), rfl, rfl, rfl⟩

set_option maxRecDepth 100000 in
set_option maxHeartbeats 4000000 in
theorem m_asNumber (l : Launch) (D : va_G) (cA : Nat → ClassId) {ro : Nat → Nat} {I : Nat → Nat → Int32} {F : Nat → Nat → Option Nat} (n : Int32) : ol_M l D cA yX10_asNumber cX10_asNumber 1 (some FieldType.int) (ol_r 0 0 0) [.int n] ro I F (ol_ei (ol_p (¬ n = 0)) ro I F) := by
  refine ol_M.of (by decide +kernel) (Nat.le_of_ble_eq_true rfl) (by simp [Value.category, ol_rfc]) ?_
  intro p e s m args below meth c C hret hlk hin
  refine ol_iload_n C dX10_asNumber_0 rfl rfl ?_
  refine ol_if_eq (tgt := 8) C dX10_asNumber_1 (by decide) (fun c_1 => ?_) (fun c_1 => ?_)
  · refine ol_iconst (v := 0) C dX10_asNumber_8 (by decide) ?_
    exact ol_iret C hret hlk rfl (by decide) (by decide) dX10_asNumber_9 ⟨by first | exact ol_pt c_1 | exact ol_pf (fun q => q c_1), rfl, rfl, rfl⟩
  · refine ol_iconst (v := 1) C dX10_asNumber_4 (by decide) ?_
    refine ol_goto (tgt := 9) C dX10_asNumber_5 (by decide) ?_
    exact ol_iret C hret hlk rfl (by decide) (by decide) dX10_asNumber_9 ⟨by first | exact ol_pt c_1 | exact ol_pf (fun q => q c_1), rfl, rfl, rfl⟩

set_option maxRecDepth 100000 in
set_option maxHeartbeats 4000000 in
theorem m_toldOrFailed (l : Launch) (D : va_G) (cA : Nat → ClassId) {ro : Nat → Nat} {I : Nat → Nat → Int32} {F : Nat → Nat → Option Nat} (a b : Int32) : ol_M l D cA yX10_toldOrFailed cX10_toldOrFailed 2 (some FieldType.int) (ol_r 0 0 0) [.int a, .int b] ro I F (ol_ei (ol_if (b = 0) a ((-1000010) - b)) ro I F) := by
  refine ol_M.of (by decide +kernel) (Nat.le_of_ble_eq_true rfl) (by simp [Value.category, ol_rfc]) ?_
  intro p e s m args below meth c C hret hlk hin
  refine ol_iload_n C dX10_toldOrFailed_0 rfl rfl ?_
  refine ol_if_ne (tgt := 8) C dX10_toldOrFailed_1 (by decide) (fun c_1 => ?_) (fun c_1 => ?_)
  · refine ol_ldc (v := (-1000010)) C wd_494 dX10_toldOrFailed_8 ?_
    refine ol_iload_n C dX10_toldOrFailed_10 rfl rfl ?_
    refine ol_isub C dX10_toldOrFailed_11 ?_
    exact ol_iret C hret hlk rfl (by decide) (by decide) dX10_toldOrFailed_12 ⟨by first | (have q : b = 0 := c_1; exact ol_it q) | (have q : ¬ b = 0 := c_1; exact ol_iff q), rfl, rfl, rfl⟩
  · refine ol_iload_n C dX10_toldOrFailed_4 rfl rfl ?_
    refine ol_goto (tgt := 12) C dX10_toldOrFailed_5 (by decide) ?_
    exact ol_iret C hret hlk rfl (by decide) (by decide) dX10_toldOrFailed_12 ⟨by first | (have q : b = 0 := c_1; exact ol_it q) | (have q : ¬ b = 0 := c_1; exact ol_iff q), rfl, rfl, rfl⟩

set_option maxRecDepth 100000 in
set_option maxHeartbeats 4000000 in
theorem m_hasNode (l : Launch) (D : va_G) (cA : Nat → ClassId) {ro : Nat → Nat} {I : Nat → Nat → Int32} {F : Nat → Nat → Option Nat} {x : Nat} (hx : ol_is ro x (.inl 8)) (n : Int32) : ol_M l D cA yX4_hasNode cX4_hasNode 2 (some FieldType.boolean) (ol_r 0 0 0) [.ref x, .int n] ro I F (ol_ei (ol_p (¬ n < 0 ∧ ¬ I x 9 ≤ n)) ro I F) := by
  refine ol_M.of (by decide +kernel) (Nat.le_of_ble_eq_true rfl) (by simp [Value.category, ol_rfc]) ?_
  intro p e s m args below meth c C hret hlk hin
  refine ol_iload_n C dX4_hasNode_0 rfl rfl ?_
  refine ol_if_lt (tgt := 16) C dX4_hasNode_1 (by decide) (fun c_1 => ?_) (fun c_1 => ?_)
  · refine ol_iconst (v := 0) C dX4_hasNode_16 (by decide) ?_
    exact ol_iret C hret hlk rfl (by decide) (by decide) dX4_hasNode_17 ⟨by first | exact ol_pt ⟨c_1, c_9⟩ | exact ol_pf (fun q => q.1 c_1) | exact ol_pf (fun q => q.2 c_9), rfl, rfl, rfl⟩
  · refine ol_iload_n C dX4_hasNode_4 rfl rfl ?_
    refine ol_aload_n C dX4_hasNode_5 rfl rfl (by first | exact ol_isq_r _ | exact ol_isq_q _ | exact ol_isq_n) ?_
    refine ol_gI (k := 9) C (by assumption) rfl rfl wd_52 (.inl rfl) dX4_hasNode_6 ?_
    refine ol_icmp_ge (tgt := 16) C dX4_hasNode_9 (by decide) (fun c_9 => ?_) (fun c_9 => ?_)
    · refine ol_iconst (v := 0) C dX4_hasNode_16 (by decide) ?_
      exact ol_iret C hret hlk rfl (by decide) (by decide) dX4_hasNode_17 ⟨by first | exact ol_pt ⟨c_1, c_9⟩ | exact ol_pf (fun q => q.1 c_1) | exact ol_pf (fun q => q.2 c_9), rfl, rfl, rfl⟩
    · refine ol_iconst (v := 1) C dX4_hasNode_12 (by decide) ?_
      refine ol_goto (tgt := 17) C dX4_hasNode_13 (by decide) ?_
      exact ol_iret C hret hlk rfl (by decide) (by decide) dX4_hasNode_17 ⟨by first | exact ol_pt ⟨c_1, c_9⟩ | exact ol_pf (fun q => q.1 c_1) | exact ol_pf (fun q => q.2 c_9), rfl, rfl, rfl⟩

set_option maxRecDepth 100000 in
set_option maxHeartbeats 4000000 in
theorem m_endLoad (l : Launch) (D : va_G) (cA : Nat → ClassId) {ro : Nat → Nat} {I : Nat → Nat → Int32} {F : Nat → Nat → Option Nat} {x : Nat} (hx : ol_is ro x (.inl 0)) (a b d : Int32) : ol_M l D cA yX10_endLoad cX10_endLoad 4 none (ol_r 0 0 0) [.ref x, .int a, .int b, .int d] ro I F (ol_ev ro (ol_u2 (ol_u2 (ol_u2 I x 4 a) x 5 b) x 6 d) F) := by
  refine ol_M.of (by decide +kernel) (Nat.le_of_ble_eq_true rfl) (by simp [Value.category, ol_rfc]) ?_
  intro p e s m args below meth c C hret hlk hin
  refine ol_aload_n C dX10_endLoad_0 rfl rfl (by first | exact ol_isq_r _ | exact ol_isq_q _ | exact ol_isq_n) ?_
  refine ol_iload_n C dX10_endLoad_1 rfl rfl ?_
  refine ol_pI (k := 4) C (by assumption) rfl rfl wd_90 (.inl rfl) rfl rfl dX10_endLoad_2 ?_
  refine ol_aload_n C dX10_endLoad_5 rfl rfl (by first | exact ol_isq_r _ | exact ol_isq_q _ | exact ol_isq_n) ?_
  refine ol_iload_n C dX10_endLoad_6 rfl rfl ?_
  refine ol_pI (k := 5) C (by assumption) rfl rfl wd_91 (.inl rfl) rfl rfl dX10_endLoad_7 ?_
  refine ol_aload_n C dX10_endLoad_10 rfl rfl (by first | exact ol_isq_r _ | exact ol_isq_q _ | exact ol_isq_n) ?_
  refine ol_iload_n C dX10_endLoad_11 rfl rfl ?_
  refine ol_pI (k := 6) C (by assumption) rfl rfl wd_92 (.inl rfl) rfl rfl dX10_endLoad_12 ?_
  exact ol_vret C hret hlk (by decide) (by decide) dX10_endLoad_15 ⟨rfl, rfl, rfl, rfl⟩

set_option maxRecDepth 100000 in
set_option maxHeartbeats 4000000 in
theorem m_isThingOrNone (l : Launch) (D : va_G) (cA : Nat → ClassId) {ro : Nat → Nat} {I : Nat → Nat → Int32} {F : Nat → Nat → Option Nat} {x : Nat} (hx : ol_is ro x (.inl 0)) (n : Int32) : ol_M l D cA yX10_isThingOrNone cX10_isThingOrNone 2 (some FieldType.boolean) (ol_r 1 0 0) [.ref x, .int n] ro I F (ol_ei (ol_p (n = -1000009 ∨ (¬ n < 0 ∧ ¬ I x 1 ≤ n))) ro I F) := by
  refine ol_M.of (by decide +kernel) (Nat.le_of_ble_eq_true rfl) (by simp [Value.category, ol_rfc]) ?_
  intro p e s m args below meth c C hret hlk hin
  refine ol_iload_n C dX10_isThingOrNone_0 rfl rfl ?_
  refine ol_ldc (v := (-1000009)) C wd_85 dX10_isThingOrNone_1 ?_
  refine ol_icmp_eq (tgt := 14) C dX10_isThingOrNone_3 (by decide) (fun c_3 => ?_) (fun c_3 => ?_)
  · refine ol_iconst (v := 1) C dX10_isThingOrNone_14 (by decide) ?_
    refine ol_goto (tgt := 19) C dX10_isThingOrNone_15 (by decide) ?_
    exact ol_iret C hret hlk rfl (by decide) (by decide) dX10_isThingOrNone_19 ⟨by first | exact ol_pt (Or.inl c_3) | exact ol_pt (Or.inr (ol_p_n.mp c_11)) | exact ol_pf (fun q => q.elim c_3 (ol_p_0.mp c_11)), rfl, rfl, rfl⟩
  · refine ol_aload_n C dX10_isThingOrNone_6 rfl rfl (by first | exact ol_isq_r _ | exact ol_isq_q _ | exact ol_isq_n) ?_
    refine ol_iload_n C dX10_isThingOrNone_7 rfl rfl ?_
    refine ol_callV C (m_isThing l D cA hx n) hx.1 hx.2 rfl wd_280 wd_1 wd_277 wd_279 wq_1 mh_X10_isThing (by decide) rfl (by first | exact Nat.le_of_ble_eq_true rfl | simp [ol_rfc, Value.category]) dX10_isThingOrNone_8 (ol_xi ?_)
    refine ol_if_eq (tgt := 18) C dX10_isThingOrNone_11 (by decide) (fun c_11 => ?_) (fun c_11 => ?_)
    · refine ol_iconst (v := 0) C dX10_isThingOrNone_18 (by decide) ?_
      exact ol_iret C hret hlk rfl (by decide) (by decide) dX10_isThingOrNone_19 ⟨by first | exact ol_pt (Or.inl c_3) | exact ol_pt (Or.inr (ol_p_n.mp c_11)) | exact ol_pf (fun q => q.elim c_3 (ol_p_0.mp c_11)), rfl, rfl, rfl⟩
    · refine ol_iconst (v := 1) C dX10_isThingOrNone_14 (by decide) ?_
      refine ol_goto (tgt := 19) C dX10_isThingOrNone_15 (by decide) ?_
      exact ol_iret C hret hlk rfl (by decide) (by decide) dX10_isThingOrNone_19 ⟨by first | exact ol_pt (Or.inl c_3) | exact ol_pt (Or.inr (ol_p_n.mp c_11)) | exact ol_pf (fun q => q.elim c_3 (ol_p_0.mp c_11)), rfl, rfl, rfl⟩

set_option maxRecDepth 100000 in
set_option maxHeartbeats 4000000 in
theorem m_known (l : Launch) (D : va_G) (cA : Nat → ClassId) {ro : Nat → Nat} {I : Nat → Nat → Int32} {F : Nat → Nat → Option Nat} {x th : Nat} (hx : ol_is ro x (.inl 0)) (hF : F x 0 = some th) (hth : ol_is ro th (.inr (2, 40))) (n : Int32) {k : Nat} (hk : I x 1 = nI k) (hk40 : k ≤ 40) : ol_M l D cA yX10_known cX10_known 2 (some (FieldType.object "ObjectLoads$Thing")) (ol_r 1 0 0) [.ref x, .int n] ro I F (ol_eq (ol_if (¬ n < 0 ∧ ¬ I x 1 ≤ n) (F th n.toNatClampNeg) none) ro I F) := by
  refine ol_M.of (by decide +kernel) (Nat.le_of_ble_eq_true rfl) (by simp [Value.category, ol_rfc]) ?_
  intro p e s m args below meth c C hret hlk hin
  refine ol_aload_n C dX10_known_0 rfl rfl (by first | exact ol_isq_r _ | exact ol_isq_q _ | exact ol_isq_n) ?_
  refine ol_iload_n C dX10_known_1 rfl rfl ?_
  refine ol_callV C (m_isThing l D cA hx n) hx.1 hx.2 rfl wd_280 wd_1 wd_277 wd_279 wq_1 mh_X10_isThing (by decide) rfl (by first | exact Nat.le_of_ble_eq_true rfl | simp [ol_rfc, Value.category]) dX10_known_2 (ol_xi ?_)
  refine ol_if_eq (tgt := 17) C dX10_known_5 (by decide) (fun c_5 => ?_) (fun c_5 => ?_)
  · refine ol_null C dX10_known_17 ?_
    exact ol_aret (r := none) C rfl hret (Or.inl ⟨_, rfl⟩) hlk (by decide) (by decide) dX10_known_18 ⟨by first | (have hn2 : j < k := hj; rw [ol_if_t hn, ej, nI_clamp (by omega)]) | (have hn2 := ol_p_0.mp c_5; exact ol_ifq hn2), rfl, rfl, rfl⟩
  · have hn := ol_p_n.mp c_5
    obtain ⟨j, hj, ej⟩ := ol_ix hn hk hk40
    have hj40 : j < 40 := by omega
    refine ol_aload_n C dX10_known_8 rfl rfl (by first | exact ol_isq_r _ | exact ol_isq_q _ | exact ol_isq_n) ?_
    refine ol_gR (k := 0) C (by assumption) rfl rfl wd_86 (.inl rfl) dX10_known_9 ?_
    refine ol_rf (by assumption) ?_
    refine ol_iload_n C dX10_known_12 rfl rfl ?_
    refine ol_lT j C (by assumption) ej hj40 (by decide) dX10_known_13 ?_
    refine ol_goto (tgt := 18) C dX10_known_14 (by decide) ?_
    exact ol_aret C rfl hret (Or.inl ⟨_, rfl⟩) hlk (by decide) (by decide) dX10_known_18 ⟨by first | (have hn2 : j < k := hj; rw [ol_if_t hn, ej, nI_clamp (by omega)]) | (have hn2 := ol_p_0.mp c_5; exact ol_ifq hn2), rfl, rfl, rfl⟩

set_option maxRecDepth 100000 in
set_option maxHeartbeats 4000000 in
theorem m_isStretch (l : Launch) (D : va_G) (cA : Nat → ClassId) {ro : Nat → Nat} {I : Nat → Nat → Int32} {F : Nat → Nat → Option Nat} (a n : Int32) : ol_M l D cA yX10_isStretch cX10_isStretch 2 (some FieldType.boolean) (ol_r 0 0 0) [.int a, .int n] ro I F (ol_ei (ol_p (¬ a < 0 ∧ ¬ n < 0 ∧ ¬ 6 < n ∧ ¬ 6 - n < a)) ro I F) := by
  refine ol_M.of (by decide +kernel) (Nat.le_of_ble_eq_true rfl) (by simp [Value.category, ol_rfc]) ?_
  intro p e s m args below meth c C hret hlk hin
  refine ol_iload_n C dX10_isStretch_0 rfl rfl ?_
  refine ol_if_lt (tgt := 26) C dX10_isStretch_1 (by decide) (fun c_1 => ?_) (fun c_1 => ?_)
  · refine ol_iconst (v := 0) C dX10_isStretch_26 (by decide) ?_
    exact ol_iret C hret hlk rfl (by decide) (by decide) dX10_isStretch_27 ⟨by first | exact ol_pt ⟨c_1, c_5, c_11, c_19⟩ | exact ol_pf (fun q => q.1 c_1) | exact ol_pf (fun q => q.2.1 c_5) | exact ol_pf (fun q => q.2.2.1 c_11) | exact ol_pf (fun q => q.2.2.2 c_19), rfl, rfl, rfl⟩
  · refine ol_iload_n C dX10_isStretch_4 rfl rfl ?_
    refine ol_if_lt (tgt := 26) C dX10_isStretch_5 (by decide) (fun c_5 => ?_) (fun c_5 => ?_)
    · refine ol_iconst (v := 0) C dX10_isStretch_26 (by decide) ?_
      exact ol_iret C hret hlk rfl (by decide) (by decide) dX10_isStretch_27 ⟨by first | exact ol_pt ⟨c_1, c_5, c_11, c_19⟩ | exact ol_pf (fun q => q.1 c_1) | exact ol_pf (fun q => q.2.1 c_5) | exact ol_pf (fun q => q.2.2.1 c_11) | exact ol_pf (fun q => q.2.2.2 c_19), rfl, rfl, rfl⟩
    · refine ol_iload_n C dX10_isStretch_8 rfl rfl ?_
      refine ol_bipush (v := 6) C dX10_isStretch_9 (by decide) ?_
      refine ol_icmp_gt (tgt := 26) C dX10_isStretch_11 (by decide) (fun c_11 => ?_) (fun c_11 => ?_)
      · refine ol_iconst (v := 0) C dX10_isStretch_26 (by decide) ?_
        exact ol_iret C hret hlk rfl (by decide) (by decide) dX10_isStretch_27 ⟨by first | exact ol_pt ⟨c_1, c_5, c_11, c_19⟩ | exact ol_pf (fun q => q.1 c_1) | exact ol_pf (fun q => q.2.1 c_5) | exact ol_pf (fun q => q.2.2.1 c_11) | exact ol_pf (fun q => q.2.2.2 c_19), rfl, rfl, rfl⟩
      · refine ol_iload_n C dX10_isStretch_14 rfl rfl ?_
        refine ol_bipush (v := 6) C dX10_isStretch_15 (by decide) ?_
        refine ol_iload_n C dX10_isStretch_17 rfl rfl ?_
        refine ol_isub C dX10_isStretch_18 ?_
        refine ol_icmp_gt (tgt := 26) C dX10_isStretch_19 (by decide) (fun c_19 => ?_) (fun c_19 => ?_)
        · refine ol_iconst (v := 0) C dX10_isStretch_26 (by decide) ?_
          exact ol_iret C hret hlk rfl (by decide) (by decide) dX10_isStretch_27 ⟨by first | exact ol_pt ⟨c_1, c_5, c_11, c_19⟩ | exact ol_pf (fun q => q.1 c_1) | exact ol_pf (fun q => q.2.1 c_5) | exact ol_pf (fun q => q.2.2.1 c_11) | exact ol_pf (fun q => q.2.2.2 c_19), rfl, rfl, rfl⟩
        · refine ol_iconst (v := 1) C dX10_isStretch_22 (by decide) ?_
          refine ol_goto (tgt := 27) C dX10_isStretch_23 (by decide) ?_
          exact ol_iret C hret hlk rfl (by decide) (by decide) dX10_isStretch_27 ⟨by first | exact ol_pt ⟨c_1, c_5, c_11, c_19⟩ | exact ol_pf (fun q => q.1 c_1) | exact ol_pf (fun q => q.2.1 c_5) | exact ol_pf (fun q => q.2.2.1 c_11) | exact ol_pf (fun q => q.2.2.2 c_19), rfl, rfl, rfl⟩

set_option maxRecDepth 100000 in
set_option maxHeartbeats 4000000 in
theorem m_arcsOf (l : Launch) (D : va_G) (cA : Nat → ClassId) {ro : Nat → Nat} {I : Nat → Nat → Int32} {F : Nat → Nat → Option Nat} {x : Nat} (hx : ol_is ro x (.inl 8)) {fa : Nat} (hF : F x 3 = some fa) (hfa : ol_is ro fa (.inr (0, 41))) {n : Nat} (hn : n < 40) : ol_M l D cA yX4_arcsOf cX4_arcsOf 2 (some FieldType.int) (ol_r 0 0 0) [.ref x, .int (nI n)] ro I F (ol_ei (I fa (n + 1) - I fa n) ro I F) := by
  refine ol_M.of (by decide +kernel) (Nat.le_of_ble_eq_true rfl) (by simp [Value.category, ol_rfc]) ?_
  intro p e s m args below meth c C hret hlk hin
  refine ol_aload_n C dX4_arcsOf_0 rfl rfl (by first | exact ol_isq_r _ | exact ol_isq_q _ | exact ol_isq_n) ?_
  refine ol_gR (k := 3) C (by assumption) rfl rfl wd_42 (.inl rfl) dX4_arcsOf_1 ?_
  refine ol_rf (by assumption) ?_
  refine ol_iload_n C dX4_arcsOf_4 rfl rfl ?_
  refine ol_iconst (v := 1) C dX4_arcsOf_5 (by decide) ?_
  refine ol_iadd C dX4_arcsOf_6 ?_
  refine ol_lI (n + 1) C (by assumption) (nI_1 n) (by omega) (by decide) dX4_arcsOf_7 ?_
  refine ol_aload_n C dX4_arcsOf_8 rfl rfl (by first | exact ol_isq_r _ | exact ol_isq_q _ | exact ol_isq_n) ?_
  refine ol_gR (k := 3) C (by assumption) rfl rfl wd_42 (.inl rfl) dX4_arcsOf_9 ?_
  refine ol_rf (by assumption) ?_
  refine ol_iload_n C dX4_arcsOf_12 rfl rfl ?_
  refine ol_lI n C (by assumption) rfl (by omega) (by decide) dX4_arcsOf_13 ?_
  refine ol_isub C dX4_arcsOf_14 ?_
  exact ol_iret C hret hlk rfl (by decide) (by decide) dX4_arcsOf_15 ⟨rfl, rfl, rfl, rfl⟩

set_option maxRecDepth 100000 in
set_option maxHeartbeats 4000000 in
theorem m_endArcsOf (l : Launch) (D : va_G) (cA : Nat → ClassId) {ro : Nat → Nat} {I : Nat → Nat → Int32} {F : Nat → Nat → Option Nat} {x : Nat} (hx : ol_is ro x (.inl 8)) {fa : Nat} (hF : F x 3 = some fa) (hfa : ol_is ro fa (.inr (0, 41))) {n : Nat} (hn : n < 40) : ol_M l D cA yX4_endArcsOf cX4_endArcsOf 2 none (ol_r 0 0 0) [.ref x, .int (nI n)] ro I F (ol_ev ro (ol_u2 I fa (n + 1) (I x 10)) F) := by
  refine ol_M.of (by decide +kernel) (Nat.le_of_ble_eq_true rfl) (by simp [Value.category, ol_rfc]) ?_
  intro p e s m args below meth c C hret hlk hin
  refine ol_aload_n C dX4_endArcsOf_0 rfl rfl (by first | exact ol_isq_r _ | exact ol_isq_q _ | exact ol_isq_n) ?_
  refine ol_gR (k := 3) C (by assumption) rfl rfl wd_42 (.inl rfl) dX4_endArcsOf_1 ?_
  refine ol_rf (by assumption) ?_
  refine ol_iload_n C dX4_endArcsOf_4 rfl rfl ?_
  refine ol_iconst (v := 1) C dX4_endArcsOf_5 (by decide) ?_
  refine ol_iadd C dX4_endArcsOf_6 ?_
  refine ol_aload_n C dX4_endArcsOf_7 rfl rfl (by first | exact ol_isq_r _ | exact ol_isq_q _ | exact ol_isq_n) ?_
  refine ol_gI (k := 10) C (by assumption) rfl rfl wd_54 (.inl rfl) dX4_endArcsOf_8 ?_
  refine ol_sI (n + 1) C (by assumption) (nI_1 n) (by omega) (by decide) dX4_endArcsOf_11 ?_
  exact ol_vret C hret hlk (by decide) (by decide) dX4_endArcsOf_12 ⟨rfl, rfl, rfl, rfl⟩
end
section
/-! THE LAYOUT: the cells that are there once, by their roles; ad r is the address of the cell of role r -/
def ol_uq : List Nat := [1, 10, 11, 22, 23, 24, 25, 26, 27, 28, 29, 30, 31, 32, 33, 34, 35, 36, 37, 38, 39, 40, 41, 42, 50, 51, 52, 53, 54, 55, 56, 57, 58, 59, 60, 61, 62, 63, 64, 65, 66, 67, 68, 69]
/-- the reference's rows: which field, which role -/
def ol_mt : List (Nat × Nat) := [(1, 22), (2, 23), (3, 24), (4, 25), (5, 26), (6, 27), (7, 28), (8, 29), (10, 30), (13, 31), (14, 32), (15, 33), (16, 34), (17, 35), (18, 36), (19, 37), (20, 38), (21, 39), (22, 40), (27, 41), (28, 42)]
def ol_L (ro : Nat → Nat) (F : Nat → Nat → Option Nat) (ad : Nat → Nat) : Prop :=
  (∀ r ∈ ol_uq, ro (ad r) = r) ∧ F (ad 1) 0 = some (ad 11) ∧ (∀ b ∈ [50, 60], ∀ j ∈ [0, 1, 2, 3, 4, 5, 6, 7, 8], F (ad b) j = some (ad (b + 1 + j))) ∧ ∀ q ∈ ol_mt, F (ad 10) q.1 = some (ad q.2)
theorem ol_L.is {ro : Nat → Nat} {F : Nat → Nat → Option Nat} {ad : Nat → Nat} (h : ol_L ro F ad) (r : Nat) {x : Nat ⊕ (Nat × Nat)} (hr : r ∈ ol_uq) (h0 : r ≠ 0) (hx : ol_ct r = x) : ol_is ro (ad r) x := ol_is_of (h.1 r hr) h0 hx
theorem ol_L.ne {ro : Nat → Nat} {F : Nat → Nat → Option Nat} {ad : Nat → Nat} (h : ol_L ro F ad) {r q : Nat} (hr : r ∈ ol_uq) (hq : q ∈ ol_uq) (hn : r ≠ q) : ad r ≠ ad q := fun e => hn (by rw [← h.1 r hr, ← h.1 q hq, e])
theorem ol_L.mf {ro : Nat → Nat} {F : Nat → Nat → Option Nat} {ad : Nat → Nat} (h : ol_L ro F ad) (k r : Nat) (hk : (k, r) ∈ ol_mt) : F (ad 10) k = some (ad r) := h.2.2.2 (k, r) hk
theorem ol_L.gf {ro : Nat → Nat} {F : Nat → Nat → Option Nat} {ad : Nat → Nat} (h : ol_L ro F ad) (b j : Nat) (hb : b ∈ [50, 60]) (hj : j ∈ [0, 1, 2, 3, 4, 5, 6, 7, 8]) : F (ad b) j = some (ad (b + 1 + j)) := h.2.2.1 b hb j hj
/-- t is the number of a thing, where there are n -/
def ol_k (n : Nat) (t : Int32) : Prop := ¬ t < 0 ∧ ¬ nI n ≤ t
theorem ol_k_ix {n : Nat} {t : Int32} (h : ol_k n t) (hn : n ≤ 40) : ∃ j, j < n ∧ t = nI j ∧ j < 2 ^ 31 := by
  obtain ⟨j, h1, h2⟩ := ol_ix (k := n) h rfl hn
  exact ⟨j, h1, h2, by omega⟩
theorem ol_k_nI {n j : Nat} (hn : n ≤ 2 ^ 30) (hj : j < n) : ol_k n (nI j) := ⟨nI_pos (by omega), fun q => absurd ((nI_leI (by omega) (by omega)).mp q) (by omega)⟩
theorem ol_m1 {n : Nat} {t : Int32} (hn : n < 2 ^ 30) : (nI n - 1 < t) ↔ (t < 0 ∧ nI n - 1 < t) ∨ nI n ≤ t := by
  have e1 : (nI n - 1).toInt = (n : Int) - 1 := by
    have := pk_sub_toInt (a := n) (b := 1) (by omega) (by omega)
    exact this
  have e2 : (nI n).toInt = (n : Int) := nI_toInt (by omega)
  rw [Int32.lt_iff_toInt_lt, Int32.lt_iff_toInt_lt, Int32.le_iff_toInt_le, e1, e2, Int32.toInt_zero]
  omega
theorem ol_k_m1 {n : Nat} {t : Int32} (hn : n < 2 ^ 30) : (¬ t < 0 ∧ ¬ nI n - 1 < t) ↔ ol_k n t := by
  unfold ol_k
  rw [ol_m1 hn]
  constructor
  · rintro ⟨h1, h2⟩
    exact ⟨h1, fun q => h2 (Or.inr q)⟩
  · rintro ⟨h1, h2⟩
    exact ⟨h1, fun q => q.elim (fun z => h1 z.1) h2⟩
theorem ol_p_c {P Q : Prop} (h : P ↔ Q) : ol_p P = ol_p Q := by rw [propext h]
theorem ol_40 {n : Nat} (h : n ≤ 40) : n < 2 ^ 30 := by omega
/-- a thing's number, or NONE -/
def ol_e (q : Option Nat) : Int32 := match q with
  | none => -1000009
  | some u => nI u
theorem ol_nI_none {u : Nat} (h : u < 2 ^ 31) : ¬ nI u = -1000009 := fun q => nI_pos h (by rw [q]; decide)
theorem ol_e_n {q : Option Nat} (hq : ∀ u, q = some u → u < 2 ^ 31) (h : ol_e q = -1000009) : q = none := by
  cases q with
  | none => rfl
  | some u => exact absurd h (ol_nI_none (hq u rfl))
theorem ol_e_s {q : Option Nat} (h : ¬ ol_e q = -1000009) : ∃ u, q = some u ∧ ol_e q = nI u := by
  cases q with
  | none => exact absurd rfl h
  | some u => exact ⟨u, rfl, rfl⟩
theorem ol_m {c : Int32} {k t : Nat} (hc : c = nI k) : c * nI t = nI (k * t) := by rw [hc]; exact pk_mul k t
theorem ol_ma {c : Int32} {k t u : Nat} (hc : c = nI k) : c * nI t + nI u = nI (k * t + u) := by rw [ol_m hc]; exact nI_add _ _
theorem ol_nI0 {n : Nat} (h : nI n = 0) (h40 : n ≤ 40) : n = 0 := Classical.byContradiction fun q => nI_ne0 (Nat.pos_of_ne_zero q) (by omega) h
theorem ol_nge {x : Int32} (h : ¬ 0 ≤ x) : x < 0 := by
  rw [Int32.le_iff_toInt_le] at h
  rw [Int32.lt_iff_toInt_lt]
  omega
theorem ol_nlt {x : Int32} (h : 0 ≤ x) : ¬ x < 0 := by
  rw [Int32.le_iff_toInt_le] at h
  rw [Int32.lt_iff_toInt_lt]
  omega
theorem ol_k_5 {i : Int32} : (¬ i < 0 ∧ ¬ 5 < i) ↔ ol_k 6 i := ol_k_m1 (n := 6) (by decide)
theorem ol_k_2 {i : Int32} : (¬ i < 0 ∧ ¬ 2 < i) ↔ ol_k 3 i := ol_k_m1 (n := 3) (by decide)
end
section
/-! THE PURE PICTURE: n things; So t the sort, T 1 t the key, T 2 t the V, T 3 t whether held, T 4 t how often asked; P 0 t the next, P (1 + i) t place i -/
def ol_br (So : Nat → Nat) (q : Option Nat) : Prop := ∃ u, q = some u ∧ So u = 2
/-- why its links fail, how many they are, which -/
noncomputable def sp_lc (So : Nat → Nat) (T : Nat → Nat → Int32) (P : Nat → Nat → Option Nat) (t : Nat) : Int32 := ol_if (So t = 5) (ol_if (ol_k 6 (T 2 t)) 0 2) (ol_if (So t = 1 ∨ So t = 4) (ol_if (So t = 4 ∧ ∃ i, i < 6 ∧ ol_br So (P (1 + i) t)) 3 0) (ol_if (ol_br So (P 0 t)) 3 0))
noncomputable def sp_ln (So : Nat → Nat) (P : Nat → Nat → Option Nat) (t : Nat) : Nat := ol_if (So t = 5) 1 (ol_if (So t = 1 ∨ So t = 4) 6 (ol_if (P 0 t = none) 0 1))
noncomputable def sp_lk (So : Nat → Nat) (T : Nat → Nat → Int32) (P : Nat → Nat → Option Nat) (t i : Nat) : Option Nat := ol_if (So t = 5) (P (1 + (T 2 t).toNatClampNeg) t) (ol_if (So t = 1 ∨ So t = 4) (P (1 + i) t) (P 0 t))
/-- key: why it fails; value: why it fails, what it is -/
noncomputable def sp_kc (So : Nat → Nat) (T : Nat → Nat → Int32) (t : Nat) : Int32 := ol_p (So t = 6 ∧ T 3 t = 0)
noncomputable def sp_vc (So : Nat → Nat) (T : Nat → Nat → Int32) (t : Nat) : Int32 := ol_if (So t = 3 ∧ T 2 t = 0) 4 0
noncomputable def sp_vv (So : Nat → Nat) (T : Nat → Nat → Int32) (t : Nat) : Int32 := ol_if (So t = 3) (ol_if (T 2 t = 0) 0 (100 / T 2 t)) (ol_if (So t = 1) (2 * T 2 t) (ol_if (So t = 4) (2 * T 2 t + 1) (T 2 t)))
/-- a bridge's other end for a node -/
noncomputable def sp_en (P : Nat → Nat → Option Nat) (b t : Nat) : Option Nat := ol_if (P 1 b = some t) (P 2 b) (P 1 b)
/-- the references stay among the n things; sorts are 0 to 6; held is 0 or 1 -/
def ol_V (n : Nat) (So : Nat → Nat) (T : Nat → Nat → Int32) (P : Nat → Nat → Option Nat) : Prop := n ≤ 40 ∧ ∀ t, t < n → So t ≤ 6 ∧ (T 3 t = 0 ∨ T 3 t = 1) ∧ ∀ j, j < 7 → ∀ u, P j t = some u → u < n
/-- the things as the reference holds them -/
def ol_MT (I : Nat → Nat → Int32) (ad : Nat → Nat) (n : Nat) (So : Nat → Nat) (T : Nat → Nat → Int32) (P : Nat → Nat → Option Nat) : Prop :=
  I (ad 10) 0 = nI n ∧ ∀ t, t < n → I (ad 22) t = nI (So t) ∧ I (ad 23) t = T 1 t ∧ I (ad 24) t = T 2 t ∧ I (ad 27) t = T 3 t ∧ I (ad 28) t = T 4 t ∧ I (ad 25) t = ol_e (P 0 t) ∧ ∀ i, i < 6 → I (ad 26) (6 * t + i) = ol_e (P (1 + i) t)
/-- the reference's scratch: told, linkMany, moved, links -/
def ol_Sc (ad : Nat → Nat) (a k : Nat) : Prop := (a = ad 10 ∧ (k = 9 ∨ k = 11)) ∨ a = ad 29 ∨ a = ad 30
def ol_sq (ad : Nat → Nat) (I I' : Nat → Nat → Int32) : Prop := ∀ a k, ¬ ol_Sc ad a k → I' a k = I a k
theorem ol_sq_rf (ad : Nat → Nat) (I : Nat → Nat → Int32) : ol_sq ad I I := fun _ _ _ => rfl
theorem ol_sq.up {ad : Nat → Nat} {I I' : Nat → Nat → Int32} (h : ol_sq ad I I') {a k : Nat} (v : Int32) (hs : ol_Sc ad a k) : ol_sq ad I (ol_u2 I' a k v) := by
  intro b j hb
  rw [ol_u2_v]
  split
  · rename_i q
    exact absurd (q.1 ▸ q.2 ▸ hs) hb
  · exact h b j hb
theorem ol_sq.trans {ad : Nat → Nat} {I I' I'' : Nat → Nat → Int32} (h : ol_sq ad I I') (h2 : ol_sq ad I' I'') : ol_sq ad I I'' := fun a k hs => (h2 a k hs).trans (h a k hs)
/-- a row of a role that is no scratch -/
theorem ol_sq.row {ro : Nat → Nat} {F : Nat → Nat → Option Nat} {ad : Nat → Nat} (hL : ol_L ro F ad) {I I' : Nat → Nat → Int32} (h : ol_sq ad I I') (r k : Nat) (hr : r ∈ ol_uq) (h1 : r ≠ 10) (h2 : r ≠ 29) (h3 : r ≠ 30) : I' (ad r) k = I (ad r) k := by
  refine h _ _ (fun q => ?_)
  rcases q with ⟨q, -⟩ | q | q
  · exact hL.ne hr (by decide) h1 q
  · exact hL.ne hr (by decide) h2 q
  · exact hL.ne hr (by decide) h3 q
theorem ol_sq.mo {ro : Nat → Nat} {F : Nat → Nat → Option Nat} {ad : Nat → Nat} (hL : ol_L ro F ad) {I I' : Nat → Nat → Int32} (h : ol_sq ad I I') (k : Nat) (h1 : k ≠ 9) (h2 : k ≠ 11) : I' (ad 10) k = I (ad 10) k := by
  refine h _ _ (fun q => ?_)
  rcases q with ⟨-, q⟩ | q | q
  · exact q.elim h1 h2
  · exact hL.ne (r := 10) (by decide) (by decide) (by decide) q
  · exact hL.ne (r := 10) (by decide) (by decide) (by decide) q
theorem ol_MT.sq {ro : Nat → Nat} {F : Nat → Nat → Option Nat} {ad : Nat → Nat} (hL : ol_L ro F ad) {I I' : Nat → Nat → Int32} (h : ol_sq ad I I') {n : Nat} {So : Nat → Nat} {T : Nat → Nat → Int32} {P : Nat → Nat → Option Nat} (hT : ol_MT I ad n So T P) : ol_MT I' ad n So T P := by
  refine ⟨(h.mo hL 0 (by decide) (by decide)).trans hT.1, fun t ht => ?_⟩
  obtain ⟨a1, a2, a3, a4, a5, a6, a7⟩ := hT.2 t ht
  have rw' : ∀ r k, r ∈ [22, 23, 24, 25, 26, 27, 28] → I' (ad r) k = I (ad r) k := by
    intro r k hr
    have h2 : r ∈ ol_uq ∧ r ≠ 10 ∧ r ≠ 29 ∧ r ≠ 30 := by
      revert r
      decide
    exact h.row hL r k h2.1 h2.2.1 h2.2.2.1 h2.2.2.2
  exact ⟨(rw' 22 _ (by decide)).trans a1, (rw' 23 _ (by decide)).trans a2, (rw' 24 _ (by decide)).trans a3, (rw' 27 _ (by decide)).trans a4, (rw' 28 _ (by decide)).trans a5, (rw' 25 _ (by decide)).trans a6, fun i hi => (rw' 26 _ (by decide)).trans (a7 i hi)⟩
theorem ol_nIk {a k : Nat} (ha : a ≤ 6) (hk : k ≤ 6) : nI a = nI k ↔ a = k := nI_eq (by omega) (by omega)
theorem ol_brI {I : Nat → Nat → Int32} {ad : Nat → Nat} {n : Nat} {So : Nat → Nat} {T : Nat → Nat → Int32} {P : Nat → Nat → Option Nat} (hT : ol_MT I ad n So T P) (hV : ol_V n So T P) {q : Option Nat} (hq : ∀ u, q = some u → u < n) : (∃ u, q = some u ∧ I (ad 22) u = 2) ↔ ol_br So q := by
  constructor
  · rintro ⟨u, h1, h2⟩
    rw [(hT.2 u (hq u h1)).1] at h2
    exact ⟨u, h1, (ol_nIk (k := 2) (hV.2 u (hq u h1)).1 (by decide)).mp h2⟩
  · rintro ⟨u, h1, h2⟩
    refine ⟨u, h1, ?_⟩
    rw [(hT.2 u (hq u h1)).1, h2]
    rfl
theorem ol_e_eq {q : Option Nat} {t : Nat} (hq : ∀ u, q = some u → u < 2 ^ 31) (ht : t < 2 ^ 31) : (ol_e q = nI t) ↔ q = some t := by
  cases q with
  | none =>
    constructor
    · intro h
      exact absurd h.symm (ol_nI_none ht)
    · intro h
      cases h
  | some u =>
    show nI u = nI t ↔ some u = some t
    rw [nI_eq (hq u rfl) ht]
    exact ⟨fun h => by rw [h], fun h => Option.some.inj h⟩
end
section
theorem ol_k_6 {i : Int32} : (¬ i < 0 ∧ ¬ 6 < i) ↔ ol_k 7 i := ol_k_m1 (n := 7) (by decide)
/-- what thing() does to the reference's rows: a new thing n of sort a1, key a2, V a3 -/
def ol_mth (I I' : Nat → Nat → Int32) (ad : Nat → Nat) (n : Nat) (a1 a2 a3 : Int32) : Prop :=
  I' (ad 10) = va_up (I (ad 10)) 0 (nI (n + 1)) ∧ I' (ad 22) = va_up (I (ad 22)) n a1 ∧ I' (ad 23) = va_up (I (ad 23)) n a2 ∧ I' (ad 24) = va_up (I (ad 24)) n a3 ∧ I' (ad 25) = va_up (I (ad 25)) n (-1000009) ∧ I' (ad 27) = va_up (I (ad 27)) n 0 ∧ I' (ad 28) = va_up (I (ad 28)) n 0 ∧
  (∀ j, j < 6 → I' (ad 26) (6 * n + j) = -1000009) ∧ (∀ j, j < 6 * n ∨ 6 * n + 6 ≤ j → I' (ad 26) j = I (ad 26) j) ∧ ∀ a, a ≠ ad 10 → a ≠ ad 22 → a ≠ ad 23 → a ≠ ad 24 → a ≠ ad 25 → a ≠ ad 26 → a ≠ ad 27 → a ≠ ad 28 → I' a = I a
theorem ol_u2_r {α : Type} (I : Nat → Nat → α) (a k : Nat) (v : α) : ol_u2 I a k v a = va_up (I a) k v := by unfold ol_u2; rw [va_up_self]
theorem ol_mth_of {ro : Nat → Nat} {F : Nat → Nat → Option Nat} {ad : Nat → Nat} (hL : ol_L ro F ad) {I I1 : Nat → Nat → Int32} {n : Nat} {a1 a2 a3 : Int32} (g1 : ∀ a, a ≠ ad 26 → I1 a = ol_u2 (ol_u2 (ol_u2 (ol_u2 I (ad 22) n a1) (ad 23) n a2) (ad 24) n a3) (ad 25) n (-1000009) a) (g2 : ∀ j, j < 6 → I1 (ad 26) (6 * n + j) = -1000009) (g3 : ∀ j, j < 6 * n ∨ 6 * n + 6 ≤ j → I1 (ad 26) j = ol_u2 (ol_u2 (ol_u2 (ol_u2 I (ad 22) n a1) (ad 23) n a2) (ad 24) n a3) (ad 25) n (-1000009) (ad 26) j) :
    ol_mth I (ol_u2 (ol_u2 (ol_u2 I1 (ad 27) n 0) (ad 28) n 0) (ad 10) 0 (nI (n + 1))) ad n a1 a2 a3 := by
  have ne : ∀ r q, r ∈ [10, 22, 23, 24, 25, 26, 27, 28] → q ∈ [10, 22, 23, 24, 25, 26, 27, 28] → r ≠ q → ad r ≠ ad q := by
    intro r q hr hq h
    have hs : ∀ z, z ∈ [10, 22, 23, 24, 25, 26, 27, 28] → z ∈ ol_uq := by decide
    exact hL.ne (hs r hr) (hs q hq) h
  have N : ∀ {r q : Nat}, r ∈ [10, 22, 23, 24, 25, 26, 27, 28] → q ∈ [10, 22, 23, 24, 25, 26, 27, 28] → r ≠ q → ad r ≠ ad q := fun a b c => ne _ _ a b c
  refine ⟨?_, ?_, ?_, ?_, ?_, ?_, ?_, ?_, ?_, ?_⟩
  · rw [ol_u2_r, ol_u2_a _ _ (N (by decide) (by decide) (by decide)), ol_u2_a _ _ (N (by decide) (by decide) (by decide)), g1 _ (N (by decide) (by decide) (by decide)), ol_u2_a _ _ (N (by decide) (by decide) (by decide)), ol_u2_a _ _ (N (by decide) (by decide) (by decide)), ol_u2_a _ _ (N (by decide) (by decide) (by decide)), ol_u2_a _ _ (N (by decide) (by decide) (by decide))]
  · rw [ol_u2_a _ _ (N (by decide) (by decide) (by decide)), ol_u2_a _ _ (N (by decide) (by decide) (by decide)), ol_u2_a _ _ (N (by decide) (by decide) (by decide)), g1 _ (N (by decide) (by decide) (by decide)), ol_u2_a _ _ (N (by decide) (by decide) (by decide)), ol_u2_a _ _ (N (by decide) (by decide) (by decide)), ol_u2_a _ _ (N (by decide) (by decide) (by decide)), ol_u2_r]
  · rw [ol_u2_a _ _ (N (by decide) (by decide) (by decide)), ol_u2_a _ _ (N (by decide) (by decide) (by decide)), ol_u2_a _ _ (N (by decide) (by decide) (by decide)), g1 _ (N (by decide) (by decide) (by decide)), ol_u2_a _ _ (N (by decide) (by decide) (by decide)), ol_u2_a _ _ (N (by decide) (by decide) (by decide)), ol_u2_r, ol_u2_a _ _ (N (by decide) (by decide) (by decide))]
  · rw [ol_u2_a _ _ (N (by decide) (by decide) (by decide)), ol_u2_a _ _ (N (by decide) (by decide) (by decide)), ol_u2_a _ _ (N (by decide) (by decide) (by decide)), g1 _ (N (by decide) (by decide) (by decide)), ol_u2_a _ _ (N (by decide) (by decide) (by decide)), ol_u2_r, ol_u2_a _ _ (N (by decide) (by decide) (by decide)), ol_u2_a _ _ (N (by decide) (by decide) (by decide))]
  · rw [ol_u2_a _ _ (N (by decide) (by decide) (by decide)), ol_u2_a _ _ (N (by decide) (by decide) (by decide)), ol_u2_a _ _ (N (by decide) (by decide) (by decide)), g1 _ (N (by decide) (by decide) (by decide)), ol_u2_r, ol_u2_a _ _ (N (by decide) (by decide) (by decide)), ol_u2_a _ _ (N (by decide) (by decide) (by decide)), ol_u2_a _ _ (N (by decide) (by decide) (by decide))]
  · rw [ol_u2_a _ _ (N (by decide) (by decide) (by decide)), ol_u2_a _ _ (N (by decide) (by decide) (by decide)), ol_u2_r, g1 _ (N (by decide) (by decide) (by decide)), ol_u2_a _ _ (N (by decide) (by decide) (by decide)), ol_u2_a _ _ (N (by decide) (by decide) (by decide)), ol_u2_a _ _ (N (by decide) (by decide) (by decide)), ol_u2_a _ _ (N (by decide) (by decide) (by decide))]
  · rw [ol_u2_a _ _ (N (by decide) (by decide) (by decide)), ol_u2_r, ol_u2_a _ _ (N (by decide) (by decide) (by decide)), g1 _ (N (by decide) (by decide) (by decide)), ol_u2_a _ _ (N (by decide) (by decide) (by decide)), ol_u2_a _ _ (N (by decide) (by decide) (by decide)), ol_u2_a _ _ (N (by decide) (by decide) (by decide)), ol_u2_a _ _ (N (by decide) (by decide) (by decide))]
  · intro j hj
    rw [ol_u2_a _ _ (N (by decide) (by decide) (by decide)), ol_u2_a _ _ (N (by decide) (by decide) (by decide)), ol_u2_a _ _ (N (by decide) (by decide) (by decide))]
    exact g2 j hj
  · intro j hj
    rw [ol_u2_a _ _ (N (by decide) (by decide) (by decide)), ol_u2_a _ _ (N (by decide) (by decide) (by decide)), ol_u2_a _ _ (N (by decide) (by decide) (by decide)), g3 j hj, ol_u2_a _ _ (N (by decide) (by decide) (by decide)), ol_u2_a _ _ (N (by decide) (by decide) (by decide)), ol_u2_a _ _ (N (by decide) (by decide) (by decide)), ol_u2_a _ _ (N (by decide) (by decide) (by decide))]
  · intro a h10 h22 h23 h24 h25 h26 h27 h28
    rw [ol_u2_a _ _ h10, ol_u2_a _ _ h28, ol_u2_a _ _ h27, g1 a h26, ol_u2_a _ _ h25, ol_u2_a _ _ h24, ol_u2_a _ _ h23, ol_u2_a _ _ h22]
theorem ol_ex_no {A : Prop} {B : Nat → Prop} {k : Nat} (h : ¬ B k) : (A ∧ ∃ i, i < k ∧ B i) ↔ (A ∧ ∃ i, i < k + 1 ∧ B i) := by
  constructor
  · rintro ⟨a, i, h1, h2⟩
    exact ⟨a, i, by omega, h2⟩
  · rintro ⟨a, i, h1, h2⟩
    refine ⟨a, i, ?_, h2⟩
    rcases Nat.lt_or_ge i k with q | q
    · exact q
    · have e : i = k := by omega
      subst e
      exact absurd h2 h
theorem ol_if_or {α : Type} (P : Prop) (a b : α) : ol_if P a b = a ∨ ol_if P a b = b := by
  by_cases h : P
  · exact Or.inl (ol_if_t h)
  · exact Or.inr (ol_if_f h)
theorem ol_le0 {x : Int32} (h : x = 0 ∨ x = 1 ∨ x = 2 ∨ x = 3 ∨ x = 4) : x ≤ 0 ↔ x = 0 := by rcases h with rfl | rfl | rfl | rfl | rfl <;> decide
theorem sp_k0 (So : Nat → Nat) (T : Nat → Nat → Int32) (t : Nat) : sp_kc So T t ≤ 0 ↔ sp_kc So T t = 0 := by
  refine ol_le0 ?_
  unfold sp_kc
  rcases ol_p_or (So t = 6 ∧ T 3 t = 0) with ⟨-, h⟩ | ⟨-, h⟩ <;> rw [h] <;> simp
theorem sp_v0 (So : Nat → Nat) (T : Nat → Nat → Int32) (t : Nat) : sp_vc So T t ≤ 0 ↔ sp_vc So T t = 0 := by
  refine ol_le0 ?_
  unfold sp_vc
  rcases ol_if_or (So t = 3 ∧ T 2 t = 0) (4 : Int32) 0 with h | h <;> rw [h] <;> simp
theorem sp_l0 (So : Nat → Nat) (T : Nat → Nat → Int32) (P : Nat → Nat → Option Nat) (t : Nat) : sp_lc So T P t ≤ 0 ↔ sp_lc So T P t = 0 := by
  refine ol_le0 ?_
  unfold sp_lc
  rcases ol_if_or (So t = 5) (ol_if (ol_k 6 (T 2 t)) (0 : Int32) 2) (ol_if (So t = 1 ∨ So t = 4) (ol_if (So t = 4 ∧ ∃ i, i < 6 ∧ ol_br So (P (1 + i) t)) 3 0) (ol_if (ol_br So (P 0 t)) 3 0)) with h | h <;> rw [h]
  · rcases ol_if_or (ol_k 6 (T 2 t)) (0 : Int32) 2 with h | h <;> rw [h] <;> simp
  · rcases ol_if_or (So t = 1 ∨ So t = 4) (ol_if (So t = 4 ∧ ∃ i, i < 6 ∧ ol_br So (P (1 + i) t)) (3 : Int32) 0) (ol_if (ol_br So (P 0 t)) 3 0) with h | h <;> rw [h]
    · rcases ol_if_or (So t = 4 ∧ ∃ i, i < 6 ∧ ol_br So (P (1 + i) t)) (3 : Int32) 0 with h | h <;> rw [h] <;> simp
    · rcases ol_if_or (ol_br So (P 0 t)) (3 : Int32) 0 with h | h <;> rw [h] <;> simp
/-- what tells() answers -/
noncomputable def sp_tl (n : Nat) (So : Nat → Nat) (T : Nat → Nat → Int32) (P : Nat → Nat → Option Nat) (t w : Int32) : Int32 :=
  ol_if (ol_k n t) (ol_if (ol_k 3 w) (ol_if (w = 0) (ol_if (sp_kc So T t.toNatClampNeg = 0) (T 1 t.toNatClampNeg) (-1000010 - sp_kc So T t.toNatClampNeg)) (ol_if (w = 1) (ol_if (sp_vc So T t.toNatClampNeg = 0) (sp_vv So T t.toNatClampNeg) (-1000010 - sp_vc So T t.toNatClampNeg)) (ol_if (So t.toNatClampNeg = 2) 2 (ol_if (sp_lc So T P t.toNatClampNeg = 0) (nI (sp_ln So P t.toNatClampNeg)) (-1000010 - sp_lc So T P t.toNatClampNeg))))) (-1000002)) (-1000001)
/-- what is() answers -/
noncomputable def sp_is (n : Nat) (So : Nat → Nat) (t f : Int32) : Int32 :=
  ol_if (ol_k n t) (ol_if (f = 0) (ol_p (¬ So t.toNatClampNeg = 2)) (ol_if (f = 1) (ol_p (So t.toNatClampNeg = 1 ∨ So t.toNatClampNeg = 4 ∨ So t.toNatClampNeg = 5)) (ol_if (f = 2) (ol_p (So t.toNatClampNeg = 2)) (-1000002)))) (-1000001)
theorem ol_k3_012 {w : Int32} (h : ol_k 3 w) : w = 0 ∨ w = 1 ∨ w = 2 := by
  obtain ⟨j, h1, h2, -⟩ := ol_k_ix h (by omega)
  have h3 : j = 0 ∨ j = 1 ∨ j = 2 := by omega
  rcases h3 with h | h | h
  · left; rw [h2, h]; rfl
  · right; left; rw [h2, h]; rfl
  · right; right; rw [h2, h]; rfl
end
section
/-- a stretch of n places from a on that are all there -/
def ol_stt (a n : Int32) : Prop := ∃ ka kn : Nat, a = nI ka ∧ n = nI kn ∧ ka + kn ≤ 6
theorem ol_stt_iff {a n : Int32} : (¬ a < 0 ∧ ¬ n < 0 ∧ ¬ 6 < n ∧ ¬ 6 - n < a) ↔ ol_stt a n := by
  constructor
  · rintro ⟨h1, h2, h3, h4⟩
    obtain ⟨ka, k1, rfl⟩ := nI_of h1
    obtain ⟨kn, k2, rfl⟩ := nI_of h2
    have h5 : kn ≤ 6 := by
      rcases Nat.lt_or_ge 6 kn with q | q
      · exact absurd (nI_lt q k2) h3
      · exact q
    have h6 : ka ≤ 6 - kn := by
      have e : (6 : Int32) - nI kn = nI (6 - kn) := pk_sub (a := 6) h5
      rw [e] at h4
      rcases Nat.lt_or_ge (6 - kn) ka with q | q
      · exact absurd (nI_lt q k1) h4
      · exact q
    exact ⟨ka, kn, rfl, rfl, by omega⟩
  · rintro ⟨ka, kn, rfl, rfl, h⟩
    have e : (6 : Int32) - nI kn = nI (6 - kn) := pk_sub (a := 6) (by omega)
    refine ⟨nI_pos (by omega), nI_pos (by omega), nI_nlt (a := 6) (b := kn) (by omega) (by omega) |> fun q => ?_, ?_⟩
    · intro z
      exact absurd ((nI_ltI (a := 6) (by omega) (by omega)).mp z) (by omega)
    · rw [e]
      intro z
      exact absurd ((nI_ltI (by omega) (by omega)).mp z) (by omega)
theorem ol_stt_ge {a n : Int32} (h : ol_stt a n) : ¬ a < 0 ∧ ¬ n < 0 ∧ ¬ 6 < a ∧ ¬ 6 < n ∧ ¬ 6 < a + n := by
  obtain ⟨ka, kn, rfl, rfl, h⟩ := h
  refine ⟨nI_pos (by omega), nI_pos (by omega), fun z => ?_, fun z => ?_, fun z => ?_⟩
  · exact absurd ((nI_ltI (a := 6) (by omega) (by omega)).mp z) (by omega)
  · exact absurd ((nI_ltI (a := 6) (by omega) (by omega)).mp z) (by omega)
  · rw [nI_add] at z
    exact absurd ((nI_ltI (a := 6) (by omega) (by omega)).mp z) (by omega)
theorem ol_stt_of {a n : Int32} (h1 : ¬ a < 0) (h2 : ¬ n < 0) (h3 : ¬ 6 < a) (h4 : ¬ 6 < n) (h5 : ¬ 6 < a + n) : ol_stt a n := by
  obtain ⟨ka, k1, rfl⟩ := nI_of h1
  obtain ⟨kn, k2, rfl⟩ := nI_of h2
  have q1 : ka ≤ 6 := by
    rcases Nat.lt_or_ge 6 ka with q | q
    · exact absurd (nI_lt q k1) h3
    · exact q
  have q2 : kn ≤ 6 := by
    rcases Nat.lt_or_ge 6 kn with q | q
    · exact absurd (nI_lt q k2) h4
    · exact q
  refine ⟨ka, kn, rfl, rfl, ?_⟩
  rw [nI_add] at h5
  rcases Nat.lt_or_ge 6 (ka + kn) with q | q
  · exact absurd (nI_lt q (by omega)) h5
  · exact q
theorem ol_le_nlt {x y : Int32} (h : x ≤ y) : ¬ y < x := by
  rw [Int32.le_iff_toInt_le] at h
  rw [Int32.lt_iff_toInt_lt]
  omega
theorem ol_nle_lt {x y : Int32} (h : ¬ x ≤ y) : y < x := by
  rw [Int32.le_iff_toInt_le] at h
  rw [Int32.lt_iff_toInt_lt]
  omega
/-- m of the n places from a on of t may be stored into o's: all, or those ahead of the first bridge if o is masked -/
def ol_cp (So : Nat → Nat) (P : Nat → Nat → Option Nat) (t a o n m : Nat) : Prop := m ≤ n ∧ (∀ i, i < m → ¬ (So o = 4 ∧ ol_br So (P (1 + (a + i)) t))) ∧ (m < n → So o = 4 ∧ ol_br So (P (1 + (a + m)) t))
theorem ol_cp_uq {So : Nat → Nat} {P : Nat → Nat → Option Nat} {t a o n m m' : Nat} (h : ol_cp So P t a o n m) (h' : ol_cp So P t a o n m') : m = m' := by
  rcases Nat.lt_trichotomy m m' with q | q | q
  · exact absurd (h.2.2 (by have := h'.1; omega)) (h'.2.1 m q)
  · exact q
  · exact absurd (h'.2.2 (by have := h.1; omega)) (h.2.1 m' q)
theorem ol_maa {c : Int32} {k t u v : Nat} (hc : c = nI k) : c * nI t + nI u + nI v = nI (k * t + (u + v)) := by rw [ol_ma hc, nI_add, Nat.add_assoc]
end
section
/-! LOADING, purely: b = (asked, N, V, O): N 0 0 nodes, N 0 1 arcs, N 0 2 holes, N 1 k the thing of node k, N 2 k its first arc, N 3 a where arc a leads; V 0 k column, V 1 a weight, V 2 a whether bridged; O t the node of thing t -/
abbrev ol_B : Type := (Nat → Int32) × (Nat → Nat → Nat) × (Nat → Nat → Int32) × (Nat → Option Nat)
def sp_find (b : ol_B) (u : Nat) : ol_B := match b.2.2.2 u with
  | some _ => b
  | none => (b.1, ol_u2 (ol_u2 b.2.1 1 (b.2.1 0 0) u) 0 0 (b.2.1 0 0 + 1), b.2.2.1, va_up b.2.2.2 u (some (b.2.1 0 0)))
def sp_no (b : ol_B) (u : Nat) : Nat := match b.2.2.2 u with
  | some k => k
  | none => b.2.1 0 0
def sp_ask (b : ol_B) (u : Nat) : ol_B := (va_up b.1 u (b.1 u + 1), b.2)
def sp_hole (b : ol_B) : ol_B := (b.1, ol_u2 b.2.1 0 2 (b.2.1 0 2 + 1), b.2.2)
def sp_arc (b : ol_B) (u : Nat) (w br : Int32) : ol_B :=
  ((sp_find b u).1, ol_u2 (ol_u2 (sp_find b u).2.1 3 (b.2.1 0 1) (sp_no b u)) 0 1 (b.2.1 0 1 + 1), ol_u2 (ol_u2 b.2.2.1 1 (b.2.1 0 1) w) 2 (b.2.1 0 1) br, (sp_find b u).2.2.2)
/-- one link of the node that the thing t is; what failed: the thing, the cause -/
noncomputable def sp_fo (So : Nat → Nat) (T : Nat → Nat → Int32) (P : Nat → Nat → Option Nat) (t : Nat) (q : Option Nat) (b : ol_B) : ol_B × Option (Nat × Int32) := match q with
  | none => (sp_hole b, none)
  | some u => ol_if (So u = 2) (match sp_en P u t with
      | none => (sp_ask b u, some (u, 1))
      | some e => ol_if (So e = 2) (sp_ask b u, some (u, 3)) (sp_arc (sp_ask (sp_ask b u) u) e (T 2 u) 1, none)) (sp_arc b u 1 0, none)
noncomputable def sp_ls (So : Nat → Nat) (T : Nat → Nat → Int32) (P : Nat → Nat → Option Nat) (t : Nat) : Nat → Nat → ol_B → ol_B × Option (Nat × Int32)
  | 0, _, b => (b, none)
  | c + 1, i, b => match sp_fo So T P t (sp_lk So T P t i) b with
    | (b', none) => sp_ls So T P t c (i + 1) b'
    | (b', some f) => (b', some f)
theorem sp_hole_N (b : ol_B) : (sp_hole b).2.1 = ol_u2 b.2.1 0 2 (b.2.1 0 2 + 1) := rfl
theorem sp_arc_N (b : ol_B) (u : Nat) (w br : Int32) : (sp_arc b u w br).2.1 = ol_u2 (ol_u2 (sp_find b u).2.1 3 (b.2.1 0 1) (sp_no b u)) 0 1 (b.2.1 0 1 + 1) := rfl
/-- how many of the first n are found -/
def ol_cn (O : Nat → Option Nat) : Nat → Nat
  | 0 => 0
  | n + 1 => ol_cn O n + (if (O n).isSome then 1 else 0)
theorem ol_cn_le (O : Nat → Option Nat) : ∀ n, ol_cn O n ≤ n
  | 0 => Nat.le_refl _
  | n + 1 => by
    have := ol_cn_le O n
    unfold ol_cn
    split <;> omega
theorem ol_cn_lt {O : Nat → Option Nat} {u : Nat} (hu : O u = none) : ∀ n, u < n → ol_cn O n < n
  | 0, h => absurd h (by omega)
  | n + 1, h => by
    unfold ol_cn
    by_cases e : u = n
    · subst e
      have := ol_cn_le O u
      rw [hu]
      simp
      omega
    · have := ol_cn_lt hu n (by omega)
      split <;> omega
theorem ol_cn_up {O : Nat → Option Nat} {u k : Nat} (hu : O u = none) : ∀ n, ol_cn (va_up O u (some k)) n = ol_cn O n + (if u < n then 1 else 0)
  | 0 => by simp [ol_cn]
  | n + 1 => by
    unfold ol_cn
    rw [ol_cn_up hu n]
    by_cases e : u = n
    · subst e
      rw [va_up_self, hu]
      simp
    · rw [va_up_ne _ _ (Ne.symm e)]
      by_cases h : u < n
      · rw [if_pos h, if_pos (show u < n + 1 by omega)]
        omega
      · rw [if_neg h, if_neg (show ¬ u < n + 1 by omega)]
        rfl
/-- what stays true of b while it grows: n things; the arcs are at most M -/
def ol_BW (n : Nat) (So : Nat → Nat) (b : ol_B) (M : Nat) : Prop :=
  b.2.1 0 0 = ol_cn b.2.2.2 n ∧ (∀ k, k < b.2.1 0 0 → b.2.1 1 k < n ∧ So (b.2.1 1 k) ≠ 2 ∧ b.2.2.2 (b.2.1 1 k) = some k) ∧ (∀ t k, b.2.2.2 t = some k → t < n ∧ k < b.2.1 0 0 ∧ b.2.1 1 k = t) ∧ b.2.1 0 1 ≤ M ∧ ∀ a, a < b.2.1 0 1 → b.2.1 3 a < b.2.1 0 0
theorem ol_BW.le {n : Nat} {So : Nat → Nat} {b : ol_B} {M : Nat} (h : ol_BW n So b M) : b.2.1 0 0 ≤ n := by rw [h.1]; exact ol_cn_le _ n
theorem ol_BW.mono {n : Nat} {So : Nat → Nat} {b : ol_B} {M M' : Nat} (h : ol_BW n So b M) (hM : M ≤ M') : ol_BW n So b M' := ⟨h.1, h.2.1, h.2.2.1, Nat.le_trans h.2.2.2.1 hM, h.2.2.2.2⟩
theorem ol_BW.lt {n : Nat} {So : Nat → Nat} {b : ol_B} {M u : Nat} (h : ol_BW n So b M) (hu : u < n) (ho : b.2.2.2 u = none) : b.2.1 0 0 < n := by rw [h.1]; exact ol_cn_lt ho n hu
theorem ol_BW.ask {n : Nat} {So : Nat → Nat} {b : ol_B} {M : Nat} (h : ol_BW n So b M) (u : Nat) : ol_BW n So (sp_ask b u) M := h
theorem ol_BW.hole {n : Nat} {So : Nat → Nat} {b : ol_B} {M : Nat} (h : ol_BW n So b M) : ol_BW n So (sp_hole b) M := by
  have e1 : (sp_hole b).2.1 0 0 = b.2.1 0 0 := by rw [sp_hole_N, ol_u2_k _ _ (by decide)]
  have e2 : (sp_hole b).2.1 0 1 = b.2.1 0 1 := by rw [sp_hole_N, ol_u2_k _ _ (by decide)]
  have e3 : (sp_hole b).2.1 1 = b.2.1 1 := by rw [sp_hole_N, ol_u2_a _ _ (by decide)]
  have e4 : (sp_hole b).2.1 3 = b.2.1 3 := by rw [sp_hole_N, ol_u2_a _ _ (by decide)]
  unfold ol_BW
  rw [e1, e2, e3, e4]
  exact h
theorem ol_BW.find {n : Nat} {So : Nat → Nat} {b : ol_B} {M u : Nat} (h : ol_BW n So b M) (hu : u < n) (hs : So u ≠ 2) : ol_BW n So (sp_find b u) M ∧ (sp_find b u).2.1 0 1 = b.2.1 0 1 ∧ (sp_find b u).2.1 3 = b.2.1 3 ∧ sp_no b u < (sp_find b u).2.1 0 0 ∧ b.2.1 0 0 ≤ (sp_find b u).2.1 0 0 := by
  unfold sp_find sp_no
  cases ho : b.2.2.2 u with
  | some k => exact ⟨h, rfl, rfl, (h.2.2.1 u k ho).2.1, Nat.le_refl _⟩
  | none =>
    have e1 : ol_u2 (ol_u2 b.2.1 1 (b.2.1 0 0) u) 0 0 (b.2.1 0 0 + 1) 0 0 = b.2.1 0 0 + 1 := ol_u2_s _ _ _ _
    have e2 : ol_u2 (ol_u2 b.2.1 1 (b.2.1 0 0) u) 0 0 (b.2.1 0 0 + 1) 0 1 = b.2.1 0 1 := by rw [ol_u2_k _ _ (by decide), ol_u2_a _ _ (by decide)]
    have e3 : ol_u2 (ol_u2 b.2.1 1 (b.2.1 0 0) u) 0 0 (b.2.1 0 0 + 1) 1 = va_up (b.2.1 1) (b.2.1 0 0) u := by rw [ol_u2_a _ _ (by decide), ol_u2_r]
    have e4 : ol_u2 (ol_u2 b.2.1 1 (b.2.1 0 0) u) 0 0 (b.2.1 0 0 + 1) 3 = b.2.1 3 := by rw [ol_u2_a _ _ (by decide), ol_u2_a _ _ (by decide)]
    refine ⟨⟨?_, ?_, ?_, ?_, ?_⟩, e2, e4, ?_, ?_⟩
    · show ol_u2 (ol_u2 b.2.1 1 (b.2.1 0 0) u) 0 0 (b.2.1 0 0 + 1) 0 0 = ol_cn (va_up b.2.2.2 u (some (b.2.1 0 0))) n
      rw [e1, ol_cn_up ho, if_pos hu, ← h.1]
    · intro k hk
      change k < ol_u2 (ol_u2 b.2.1 1 (b.2.1 0 0) u) 0 0 (b.2.1 0 0 + 1) 0 0 at hk
      change ol_u2 (ol_u2 b.2.1 1 (b.2.1 0 0) u) 0 0 (b.2.1 0 0 + 1) 1 k < n ∧ So (ol_u2 (ol_u2 b.2.1 1 (b.2.1 0 0) u) 0 0 (b.2.1 0 0 + 1) 1 k) ≠ 2 ∧ va_up b.2.2.2 u (some (b.2.1 0 0)) (ol_u2 (ol_u2 b.2.1 1 (b.2.1 0 0) u) 0 0 (b.2.1 0 0 + 1) 1 k) = some k
      rw [e1] at hk
      rw [e3]
      by_cases e : k = b.2.1 0 0
      · subst e
        rw [va_up_self, va_up_self]
        exact ⟨hu, hs, rfl⟩
      · rw [va_up_ne _ _ e]
        obtain ⟨q1, q2, q3⟩ := h.2.1 k (by omega)
        refine ⟨q1, q2, ?_⟩
        rw [va_up_ne _ _ (fun z => by rw [z, ho] at q3; cases q3)]
        exact q3
    · intro t k htk
      change va_up b.2.2.2 u (some (b.2.1 0 0)) t = some k at htk
      change t < n ∧ k < ol_u2 (ol_u2 b.2.1 1 (b.2.1 0 0) u) 0 0 (b.2.1 0 0 + 1) 0 0 ∧ ol_u2 (ol_u2 b.2.1 1 (b.2.1 0 0) u) 0 0 (b.2.1 0 0 + 1) 1 k = t
      rw [e1, e3]
      by_cases e : t = u
      · subst e
        rw [va_up_self] at htk
        have ek : b.2.1 0 0 = k := Option.some.inj htk
        subst ek
        exact ⟨hu, Nat.lt_succ_self _, va_up_self _ _ _⟩
      · rw [va_up_ne _ _ e] at htk
        obtain ⟨q1, q2, q3⟩ := h.2.2.1 t k htk
        exact ⟨q1, by omega, by rw [va_up_ne _ _ (by omega)]; exact q3⟩
    · show ol_u2 (ol_u2 b.2.1 1 (b.2.1 0 0) u) 0 0 (b.2.1 0 0 + 1) 0 1 ≤ M
      rw [e2]
      exact h.2.2.2.1
    · intro a ha
      change a < ol_u2 (ol_u2 b.2.1 1 (b.2.1 0 0) u) 0 0 (b.2.1 0 0 + 1) 0 1 at ha
      change ol_u2 (ol_u2 b.2.1 1 (b.2.1 0 0) u) 0 0 (b.2.1 0 0 + 1) 3 a < ol_u2 (ol_u2 b.2.1 1 (b.2.1 0 0) u) 0 0 (b.2.1 0 0 + 1) 0 0
      rw [e2] at ha
      rw [e4, e1]
      have := h.2.2.2.2 a ha
      omega
    · show b.2.1 0 0 < ol_u2 (ol_u2 b.2.1 1 (b.2.1 0 0) u) 0 0 (b.2.1 0 0 + 1) 0 0
      rw [e1]
      omega
    · show b.2.1 0 0 ≤ ol_u2 (ol_u2 b.2.1 1 (b.2.1 0 0) u) 0 0 (b.2.1 0 0 + 1) 0 0
      rw [e1]
      omega
theorem ol_BW.arc {n : Nat} {So : Nat → Nat} {b : ol_B} {M u : Nat} (w br : Int32) (h : ol_BW n So b M) (hu : u < n) (hs : So u ≠ 2) : ol_BW n So (sp_arc b u w br) (M + 1) := by
  obtain ⟨h1, f1, f3, f4, f5⟩ := h.find hu hs
  have e1 : (sp_arc b u w br).2.1 0 0 = (sp_find b u).2.1 0 0 := by
    rw [sp_arc_N, ol_u2_k _ _ (by decide), ol_u2_a _ _ (by decide)]
  have e2 : (sp_arc b u w br).2.1 0 1 = b.2.1 0 1 + 1 := by rw [sp_arc_N, ol_u2_s]
  have e3 : (sp_arc b u w br).2.1 1 = (sp_find b u).2.1 1 := by
    rw [sp_arc_N, ol_u2_a _ _ (by decide), ol_u2_a _ _ (by decide)]
  have e4 : (sp_arc b u w br).2.1 3 = va_up ((sp_find b u).2.1 3) (b.2.1 0 1) (sp_no b u) := by
    rw [sp_arc_N, ol_u2_a _ _ (by decide), ol_u2_r]
  have e5 : (sp_arc b u w br).2.2.2 = (sp_find b u).2.2.2 := rfl
  have hM := h.2.2.2.1
  refine ⟨by rw [e1, e5]; exact h1.1, ?_, ?_, by rw [e2]; omega, ?_⟩
  · rw [e1, e3, e5]
    exact h1.2.1
  · rw [e1, e3, e5]
    exact h1.2.2.1
  · intro a ha
    rw [e2] at ha
    rw [e4, e1]
    by_cases e : a = b.2.1 0 1
    · subst e
      rw [va_up_self]
      exact f4
    · rw [va_up_ne _ _ e, f3]
      have := h.2.2.2.2 a (by omega)
      omega
end
section
/-! THE REFERENCE'S GRAPHS: f r is the row of role r; slot g -/
def ol_o (q : Option Nat) : Int32 := match q with
  | none => -1
  | some k => nI k
def ol_MG (f : Nat → Nat → Int32) (g : Nat) (b : ol_B) (kc kf : Nat) : Prop :=
  f 31 g = nI (b.2.1 0 0) ∧ f 36 g = nI (b.2.1 0 1) ∧ f 40 g = nI (b.2.1 0 2) ∧ (∀ k, k < b.2.1 0 0 → f 32 (40 * g + k) = nI (b.2.1 1 k)) ∧ (∀ t, t < 40 → f 33 (40 * g + t) = ol_o (b.2.2.2 t)) ∧ (∀ k, k < kc → f 34 (40 * g + k) = b.2.2.1 0 k) ∧ (∀ k, k < kf → f 35 (41 * g + k) = nI (b.2.1 2 k)) ∧ (∀ a, a < b.2.1 0 1 → f 37 (240 * g + a) = nI (b.2.1 3 a) ∧ f 38 (240 * g + a) = b.2.2.1 1 a ∧ f 39 (240 * g + a) = b.2.2.1 2 a)
theorem ol_MG.congr {f f' : Nat → Nat → Int32} {g : Nat} {b : ol_B} {kc kf : Nat} (e : ∀ r ∈ [31, 32, 33, 34, 35, 36, 37, 38, 39, 40], f' r = f r) (h : ol_MG f g b kc kf) : ol_MG f' g b kc kf := by
  unfold ol_MG
  rw [e 31 (by decide), e 32 (by decide), e 33 (by decide), e 34 (by decide), e 35 (by decide), e 36 (by decide), e 37 (by decide), e 38 (by decide), e 39 (by decide), e 40 (by decide)]
  exact h
theorem ol_MG.ask {f : Nat → Nat → Int32} {g : Nat} {b : ol_B} {kc kf : Nat} (h : ol_MG f g b kc kf) (u : Nat) : ol_MG f g (sp_ask b u) kc kf := h
theorem ol_MG.hole {f : Nat → Nat → Int32} {g : Nat} {b : ol_B} {kc kf : Nat} (h : ol_MG f g b kc kf) : ol_MG (ol_u2 f 40 g (nI (b.2.1 0 2 + 1))) g (sp_hole b) kc kf := by
  obtain ⟨a1, a2, a3, a4, a5, a6, a7, a8⟩ := h
  have e0 : (sp_hole b).2.1 0 0 = b.2.1 0 0 := by rw [sp_hole_N, ol_u2_k _ _ (by decide)]
  have e1 : (sp_hole b).2.1 0 1 = b.2.1 0 1 := by rw [sp_hole_N, ol_u2_k _ _ (by decide)]
  have e2 : (sp_hole b).2.1 0 2 = b.2.1 0 2 + 1 := by rw [sp_hole_N, ol_u2_s]
  have r1 : (sp_hole b).2.1 1 = b.2.1 1 := by rw [sp_hole_N, ol_u2_a _ _ (by decide)]
  have r2 : (sp_hole b).2.1 2 = b.2.1 2 := by rw [sp_hole_N, ol_u2_a _ _ (by decide)]
  have r3 : (sp_hole b).2.1 3 = b.2.1 3 := by rw [sp_hole_N, ol_u2_a _ _ (by decide)]
  have rv : (sp_hole b).2.2 = b.2.2 := rfl
  unfold ol_MG
  rw [e0, e1, e2, r1, r2, r3, rv, ol_u2_a f _ (show 31 ≠ 40 by decide), ol_u2_a f _ (show 32 ≠ 40 by decide), ol_u2_a f _ (show 33 ≠ 40 by decide), ol_u2_a f _ (show 34 ≠ 40 by decide), ol_u2_a f _ (show 35 ≠ 40 by decide), ol_u2_a f _ (show 36 ≠ 40 by decide), ol_u2_a f _ (show 37 ≠ 40 by decide), ol_u2_a f _ (show 38 ≠ 40 by decide), ol_u2_a f _ (show 39 ≠ 40 by decide), ol_u2_s]
  exact ⟨a1, a2, rfl, a4, a5, a6, a7, a8⟩
/-- found(): the old one, or a new node -/
theorem ol_MG.findO {f : Nat → Nat → Int32} {g u k : Nat} {b : ol_B} {kc kf : Nat} (h : ol_MG f g b kc kf) (ho : b.2.2.2 u = some k) : ol_MG f g (sp_find b u) kc kf ∧ sp_no b u = k := by
  unfold sp_find sp_no
  rw [ho]
  exact ⟨h, rfl⟩
theorem ol_MG.findN {f : Nat → Nat → Int32} {g u : Nat} {b : ol_B} {kc kf : Nat} (h : ol_MG f g b kc kf) (ho : b.2.2.2 u = none) : ol_MG (ol_u2 (ol_u2 (ol_u2 f 33 (40 * g + u) (nI (b.2.1 0 0))) 32 (40 * g + b.2.1 0 0) (nI u)) 31 g (nI (b.2.1 0 0 + 1))) g (sp_find b u) kc kf ∧ sp_no b u = b.2.1 0 0 := by
  obtain ⟨a1, a2, a3, a4, a5, a6, a7, a8⟩ := h
  have eb : sp_find b u = (b.1, ol_u2 (ol_u2 b.2.1 1 (b.2.1 0 0) u) 0 0 (b.2.1 0 0 + 1), b.2.2.1, va_up b.2.2.2 u (some (b.2.1 0 0))) := by
    unfold sp_find
    rw [ho]
  refine ⟨?_, by unfold sp_no; rw [ho]⟩
  rw [eb]
  unfold ol_MG
  dsimp only
  rw [show ol_u2 (ol_u2 b.2.1 1 (b.2.1 0 0) u) 0 0 (b.2.1 0 0 + 1) 0 0 = b.2.1 0 0 + 1 from ol_u2_s _ _ _ _, show ol_u2 (ol_u2 b.2.1 1 (b.2.1 0 0) u) 0 0 (b.2.1 0 0 + 1) 0 1 = b.2.1 0 1 by rw [ol_u2_k _ _ (by decide), ol_u2_a _ _ (by decide)], show ol_u2 (ol_u2 b.2.1 1 (b.2.1 0 0) u) 0 0 (b.2.1 0 0 + 1) 0 2 = b.2.1 0 2 by rw [ol_u2_k _ _ (by decide), ol_u2_a _ _ (by decide)], show ol_u2 (ol_u2 b.2.1 1 (b.2.1 0 0) u) 0 0 (b.2.1 0 0 + 1) 1 = va_up (b.2.1 1) (b.2.1 0 0) u by rw [ol_u2_a _ _ (by decide), ol_u2_r], show ol_u2 (ol_u2 b.2.1 1 (b.2.1 0 0) u) 0 0 (b.2.1 0 0 + 1) 2 = b.2.1 2 by rw [ol_u2_a _ _ (by decide), ol_u2_a _ _ (by decide)], show ol_u2 (ol_u2 b.2.1 1 (b.2.1 0 0) u) 0 0 (b.2.1 0 0 + 1) 3 = b.2.1 3 by rw [ol_u2_a _ _ (by decide), ol_u2_a _ _ (by decide)]]
  have F : ∀ r, r ≠ 31 → r ≠ 32 → r ≠ 33 → ol_u2 (ol_u2 (ol_u2 f 33 (40 * g + u) (nI (b.2.1 0 0))) 32 (40 * g + b.2.1 0 0) (nI u)) 31 g (nI (b.2.1 0 0 + 1)) r = f r := by
    intro r h1 h2 h3
    rw [ol_u2_a _ _ h1, ol_u2_a _ _ h2, ol_u2_a _ _ h3]
  rw [F 34 (by decide) (by decide) (by decide), F 35 (by decide) (by decide) (by decide), F 36 (by decide) (by decide) (by decide), F 37 (by decide) (by decide) (by decide), F 38 (by decide) (by decide) (by decide), F 39 (by decide) (by decide) (by decide), F 40 (by decide) (by decide) (by decide), ol_u2_s]
  refine ⟨rfl, a2, a3, ?_, ?_, a6, a7, a8⟩
  · intro k hk
    rw [ol_u2_a _ _ (show 32 ≠ 31 by decide)]
    by_cases e : k = b.2.1 0 0
    · subst e
      rw [ol_u2_s, va_up_self]
    · rw [ol_u2_k _ _ (by omega), ol_u2_a _ _ (show 32 ≠ 33 by decide), va_up_ne _ _ e]
      exact a4 k (by omega)
  · intro t ht
    rw [ol_u2_a _ _ (show 33 ≠ 31 by decide), ol_u2_a _ _ (show 33 ≠ 32 by decide)]
    by_cases e : t = u
    · subst e
      rw [ol_u2_s, va_up_self]
      rfl
    · rw [ol_u2_k _ _ (by omega), va_up_ne _ _ e]
      exact a5 t ht
/-- an arc's rows -/
theorem ol_MG.arc {f : Nat → Nat → Int32} {g u : Nat} {b : ol_B} {kc kf : Nat} (w br : Int32) (h : ol_MG f g (sp_find b u) kc kf) (e1' : (sp_find b u).2.1 0 1 = b.2.1 0 1) (ev : (sp_find b u).2.2.1 = b.2.2.1) : ol_MG (ol_u2 (ol_u2 (ol_u2 (ol_u2 f 37 (240 * g + b.2.1 0 1) (nI (sp_no b u))) 38 (240 * g + b.2.1 0 1) w) 39 (240 * g + b.2.1 0 1) br) 36 g (nI (b.2.1 0 1 + 1))) g (sp_arc b u w br) kc kf := by
  obtain ⟨a1, a2, a3, a4, a5, a6, a7, a8⟩ := h
  have e0 : (sp_arc b u w br).2.1 0 0 = (sp_find b u).2.1 0 0 := by rw [sp_arc_N, ol_u2_k _ _ (by decide), ol_u2_a _ _ (by decide)]
  have e1 : (sp_arc b u w br).2.1 0 1 = b.2.1 0 1 + 1 := by rw [sp_arc_N, ol_u2_s]
  have e2 : (sp_arc b u w br).2.1 0 2 = (sp_find b u).2.1 0 2 := by rw [sp_arc_N, ol_u2_k _ _ (by decide), ol_u2_a _ _ (by decide)]
  have r1 : (sp_arc b u w br).2.1 1 = (sp_find b u).2.1 1 := by rw [sp_arc_N, ol_u2_a _ _ (by decide), ol_u2_a _ _ (by decide)]
  have r2 : (sp_arc b u w br).2.1 2 = (sp_find b u).2.1 2 := by rw [sp_arc_N, ol_u2_a _ _ (by decide), ol_u2_a _ _ (by decide)]
  have r3 : (sp_arc b u w br).2.1 3 = va_up ((sp_find b u).2.1 3) (b.2.1 0 1) (sp_no b u) := by rw [sp_arc_N, ol_u2_a _ _ (by decide), ol_u2_r]
  have rv : (sp_arc b u w br).2.2.1 = ol_u2 (ol_u2 b.2.2.1 1 (b.2.1 0 1) w) 2 (b.2.1 0 1) br := rfl
  have ro' : (sp_arc b u w br).2.2.2 = (sp_find b u).2.2.2 := rfl
  unfold ol_MG
  rw [e0, e1, e2, r1, r2, r3, rv, ro']
  have F : ∀ r, r ≠ 36 → r ≠ 37 → r ≠ 38 → r ≠ 39 → ol_u2 (ol_u2 (ol_u2 (ol_u2 f 37 (240 * g + b.2.1 0 1) (nI (sp_no b u))) 38 (240 * g + b.2.1 0 1) w) 39 (240 * g + b.2.1 0 1) br) 36 g (nI (b.2.1 0 1 + 1)) r = f r := by
    intro r h1 h2 h3 h4
    rw [ol_u2_a _ _ h1, ol_u2_a _ _ h4, ol_u2_a _ _ h3, ol_u2_a _ _ h2]
  rw [F 31 (by decide) (by decide) (by decide) (by decide), F 32 (by decide) (by decide) (by decide) (by decide), F 33 (by decide) (by decide) (by decide) (by decide), F 34 (by decide) (by decide) (by decide) (by decide), F 35 (by decide) (by decide) (by decide) (by decide), F 40 (by decide) (by decide) (by decide) (by decide), ol_u2_s]
  refine ⟨a1, rfl, a3, a4, a5, ?_, a7, ?_⟩
  · rw [ol_u2_a _ _ (show 0 ≠ 2 by decide), ol_u2_a _ _ (show 0 ≠ 1 by decide), ← ev]
    exact a6
  · intro a ha
    rw [ol_u2_a _ _ (show 37 ≠ 36 by decide), ol_u2_a _ _ (show 37 ≠ 39 by decide), ol_u2_a _ _ (show 37 ≠ 38 by decide), ol_u2_a _ _ (show 38 ≠ 36 by decide), ol_u2_a _ _ (show 38 ≠ 39 by decide), ol_u2_a _ _ (show 39 ≠ 36 by decide), ol_u2_a _ _ (show 1 ≠ 2 by decide)]
    by_cases e : a = b.2.1 0 1
    · subst e
      rw [ol_u2_s, ol_u2_s, ol_u2_s, ol_u2_s, ol_u2_s, va_up_self]
      exact ⟨rfl, rfl, rfl⟩
    · have hA := a8 a (by rw [e1']; omega)
      have d : 240 * g + a ≠ 240 * g + b.2.1 0 1 := by omega
      refine ⟨?_, ?_, ?_⟩
      · rw [ol_u2_k _ _ d, va_up_ne _ _ e]
        exact hA.1
      · rw [ol_u2_k _ _ d, ol_u2_a _ _ (show 38 ≠ 37 by decide), ol_u2_k _ _ e, ← ev]
        exact hA.2.1
      · rw [ol_u2_k _ _ d, ol_u2_a _ _ (show 39 ≠ 38 by decide), ol_u2_a _ _ (show 39 ≠ 37 by decide), ol_u2_k _ _ e, ol_u2_a _ _ (show 2 ≠ 1 by decide), ← ev]
        exact hA.2.2
def ol_vf (I : Nat → Nat → Int32) (ad : Nat → Nat) : Nat → Nat → Int32 := fun r => I (ad r)
theorem ol_vu {ro : Nat → Nat} {F : Nat → Nat → Option Nat} {ad : Nat → Nat} (hL : ol_L ro F ad) (I : Nat → Nat → Int32) {r0 r : Nat} (k : Nat) (v : Int32) (h0 : r0 ∈ ol_uq) (hr : r ∈ ol_uq) : ol_vf (ol_u2 I (ad r0) k v) ad r = ol_u2 (ol_vf I ad) r0 k v r := by
  show ol_u2 I (ad r0) k v (ad r) = ol_u2 (ol_vf I ad) r0 k v r
  by_cases e : r = r0
  · subst e
    rw [ol_u2_r, ol_u2_r]
    rfl
  · rw [ol_u2_a _ _ (hL.ne hr h0 e), ol_u2_a _ _ e]
    rfl
theorem ol_MG.vu {ro : Nat → Nat} {F : Nat → Nat → Option Nat} {ad : Nat → Nat} (hL : ol_L ro F ad) {I : Nat → Nat → Int32} {r0 k : Nat} {v : Int32} (h0 : r0 ∈ ol_uq) {g : Nat} {b : ol_B} {kc kf : Nat} (h : ol_MG (ol_u2 (ol_vf I ad) r0 k v) g b kc kf) : ol_MG (ol_vf (ol_u2 I (ad r0) k v) ad) g b kc kf :=
  h.congr (fun r hr => ol_vu hL I k v h0 ((show ∀ z ∈ [31, 32, 33, 34, 35, 36, 37, 38, 39, 40], z ∈ ol_uq by decide) r hr))
/-- two updates and more, one behind another -/
theorem ol_u2_cg {f f' : Nat → Nat → Int32} {R : List Nat} (h : ∀ r ∈ R, f' r = f r) (r0 k : Nat) (v : Int32) : ∀ r ∈ R, ol_u2 f' r0 k v r = ol_u2 f r0 k v r := by
  intro r hr
  by_cases e : r = r0
  · subst e
    rw [ol_u2_r, ol_u2_r, h r hr]
  · rw [ol_u2_a _ _ e, ol_u2_a _ _ e]
    exact h r hr
/-- what a load of slot g may touch beside the scratch -/
def ol_tg (ad : Nat → Nat) (g a k : Nat) : Prop := (ol_Sc ad a k ∨ a = ad 41) ∨ a = ad 28 ∨ (a = ad 31 ∧ k = g) ∨ (a = ad 36 ∧ k = g) ∨ (a = ad 40 ∧ k = g) ∨ (a = ad 32 ∧ 40 * g ≤ k ∧ k < 40 * g + 40) ∨ (a = ad 33 ∧ 40 * g ≤ k ∧ k < 40 * g + 40) ∨ (a = ad 34 ∧ 40 * g ≤ k ∧ k < 40 * g + 40) ∨ (a = ad 35 ∧ 41 * g ≤ k ∧ k < 41 * g + 41) ∨ ((a = ad 37 ∨ a = ad 38 ∨ a = ad 39) ∧ 240 * g ≤ k ∧ k < 240 * g + 240)
def ol_fm (ad : Nat → Nat) (g : Nat) (I I' : Nat → Nat → Int32) : Prop := ∀ a k, ¬ ol_tg ad g a k → I' a k = I a k
theorem ol_fm_rf (ad : Nat → Nat) (g : Nat) (I : Nat → Nat → Int32) : ol_fm ad g I I := fun _ _ _ => rfl
theorem ol_fm.up {ad : Nat → Nat} {g : Nat} {I I' : Nat → Nat → Int32} (h : ol_fm ad g I I') {a k : Nat} (v : Int32) (hs : ol_tg ad g a k) : ol_fm ad g I (ol_u2 I' a k v) := by
  intro b j hb
  rw [ol_u2_v]
  split
  · rename_i q
    exact absurd (q.1 ▸ q.2 ▸ hs) hb
  · exact h b j hb
theorem ol_fm.sq {ad : Nat → Nat} {g : Nat} {I I' I'' : Nat → Nat → Int32} (h : ol_fm ad g I I') (h2 : ol_sq ad I' I'') : ol_fm ad g I I'' := fun a k hs => (h2 a k (fun q => hs (Or.inl (Or.inl q)))).trans (h a k hs)
theorem ol_tg_asked (ad : Nat → Nat) (g k : Nat) : ol_tg ad g (ad 28) k := Or.inr (Or.inl rfl)
theorem ol_tg_nodes (ad : Nat → Nat) (g : Nat) : ol_tg ad g (ad 31) g := Or.inr (Or.inr (Or.inl ⟨rfl, rfl⟩))
theorem ol_tg_arcs (ad : Nat → Nat) (g : Nat) : ol_tg ad g (ad 36) g := Or.inr (Or.inr (Or.inr (Or.inl ⟨rfl, rfl⟩)))
theorem ol_tg_holes (ad : Nat → Nat) (g : Nat) : ol_tg ad g (ad 40) g := Or.inr (Or.inr (Or.inr (Or.inr (Or.inl ⟨rfl, rfl⟩))))
theorem ol_tg_32 (ad : Nat → Nat) (g : Nat) {k : Nat} (h : k < 40) : ol_tg ad g (ad 32) (40 * g + k) := Or.inr (Or.inr (Or.inr (Or.inr (Or.inr (Or.inl ⟨rfl, by omega, by omega⟩)))))
theorem ol_tg_33 (ad : Nat → Nat) (g : Nat) {k : Nat} (h : k < 40) : ol_tg ad g (ad 33) (40 * g + k) := Or.inr (Or.inr (Or.inr (Or.inr (Or.inr (Or.inr (Or.inl ⟨rfl, by omega, by omega⟩))))))
theorem ol_tg_34 (ad : Nat → Nat) (g : Nat) {k : Nat} (h : k < 40) : ol_tg ad g (ad 34) (40 * g + k) := Or.inr (Or.inr (Or.inr (Or.inr (Or.inr (Or.inr (Or.inr (Or.inl ⟨rfl, by omega, by omega⟩)))))))
theorem ol_tg_35 (ad : Nat → Nat) (g : Nat) {k : Nat} (h : k < 41) : ol_tg ad g (ad 35) (41 * g + k) := Or.inr (Or.inr (Or.inr (Or.inr (Or.inr (Or.inr (Or.inr (Or.inr (Or.inl ⟨rfl, by omega, by omega⟩))))))))
theorem ol_tg_37 {ad : Nat → Nat} (g : Nat) {a k : Nat} (ha : a = ad 37 ∨ a = ad 38 ∨ a = ad 39) (h : k < 240) : ol_tg ad g a (240 * g + k) := Or.inr (Or.inr (Or.inr (Or.inr (Or.inr (Or.inr (Or.inr (Or.inr (Or.inr ⟨ha, by omega, by omega⟩))))))))
/-- the things, the askings as A -/
theorem ol_MT.ask {ro : Nat → Nat} {F : Nat → Nat → Option Nat} {ad : Nat → Nat} (hL : ol_L ro F ad) {I : Nat → Nat → Int32} {n : Nat} {So : Nat → Nat} {T : Nat → Nat → Int32} {P : Nat → Nat → Option Nat} {A : Nat → Int32} (h : ol_MT I ad n So (va_up T 4 A) P) (u : Nat) : ol_MT (ol_u2 I (ad 28) u (A u + 1)) ad n So (va_up T 4 (va_up A u (A u + 1))) P := by
  have N : ∀ r, r ∈ [10, 22, 23, 24, 25, 26, 27] → ol_u2 I (ad 28) u (A u + 1) (ad r) = I (ad r) := by
    intro r hr
    have h2 : r ∈ ol_uq ∧ r ≠ 28 := by
      revert r
      decide
    exact ol_u2_a _ _ (hL.ne h2.1 (by decide) h2.2)
  refine ⟨by rw [N 10 (by decide)]; exact h.1, fun t ht => ?_⟩
  obtain ⟨a1, a2, a3, a4, a5, a6, a7⟩ := h.2 t ht
  refine ⟨by rw [N 22 (by decide)]; exact a1, by rw [N 23 (by decide)]; exact a2, by rw [N 24 (by decide)]; exact a3, by rw [N 27 (by decide)]; exact a4, ?_, by rw [N 25 (by decide)]; exact a6, by rw [N 26 (by decide)]; exact a7⟩
  rw [va_up_self]
  rw [va_up_self] at a5
  by_cases e : t = u
  · subst e
    rw [ol_u2_s, va_up_self]
  · rw [ol_u2_k _ _ e, va_up_ne _ _ e]
    exact a5
/-- a row that the things don't stand in -/
theorem ol_MT.off {ro : Nat → Nat} {F : Nat → Nat → Option Nat} {ad : Nat → Nat} (hL : ol_L ro F ad) {I : Nat → Nat → Int32} {n : Nat} {So : Nat → Nat} {T : Nat → Nat → Int32} {P : Nat → Nat → Option Nat} (h : ol_MT I ad n So T P) {r0 : Nat} (k : Nat) (v : Int32) (h0 : r0 ∈ ol_uq) (hn : r0 ∉ [10, 22, 23, 24, 25, 26, 27, 28]) : ol_MT (ol_u2 I (ad r0) k v) ad n So T P := by
  have N : ∀ r, r ∈ [10, 22, 23, 24, 25, 26, 27, 28] → ol_u2 I (ad r0) k v (ad r) = I (ad r) := by
    intro r hr
    have h2 : r ∈ ol_uq := (show ∀ z ∈ [10, 22, 23, 24, 25, 26, 27, 28], z ∈ ol_uq by decide) r hr
    exact ol_u2_a _ _ (hL.ne h2 h0 (fun q => hn (q ▸ hr)))
  unfold ol_MT
  rw [N 10 (by decide), N 22 (by decide), N 23 (by decide), N 24 (by decide), N 25 (by decide), N 26 (by decide), N 27 (by decide), N 28 (by decide)]
  exact h
end
section
set_option maxRecDepth 100000 in
set_option maxHeartbeats 4000000 in
theorem mm_in (l : Launch) (D : va_G) (cA : Nat → ClassId) {ro : Nat → Nat} {I : Nat → Nat → Int32} {F : Nat → Nat → Option Nat} (v a b : Int32) : ol_M l D cA yX11_in cX11_in 3 (some FieldType.boolean) (ol_r 0 0 0) [.int v, .int a, .int b] ro I F (ol_ei (ol_p (¬ v < a ∧ ¬ b < v)) ro I F) := by
  refine ol_M.of (by decide +kernel) (Nat.le_of_ble_eq_true rfl) (by simp [Value.category, ol_rfc]) ?_
  intro p e s m args below meth c C hret hlk hin
  refine ol_iload_n C dX11_in_0 rfl rfl ?_
  refine ol_iload_n C dX11_in_1 rfl rfl ?_
  refine ol_icmp_lt (tgt := 14) C dX11_in_2 (by decide) (fun c_2 => ?_) (fun c_2 => ?_)
  · refine ol_iconst (v := 0) C dX11_in_14 (by decide) ?_
    exact ol_iret C hret hlk rfl (by decide) (by decide) dX11_in_15 ⟨by first | exact ol_pt ⟨c_2, c_7⟩ | exact ol_pf (fun q => q.1 c_2) | exact ol_pf (fun q => q.2 c_7), rfl, rfl, rfl⟩
  · refine ol_iload_n C dX11_in_5 rfl rfl ?_
    refine ol_iload_n C dX11_in_6 rfl rfl ?_
    refine ol_icmp_gt (tgt := 14) C dX11_in_7 (by decide) (fun c_7 => ?_) (fun c_7 => ?_)
    · refine ol_iconst (v := 0) C dX11_in_14 (by decide) ?_
      exact ol_iret C hret hlk rfl (by decide) (by decide) dX11_in_15 ⟨by first | exact ol_pt ⟨c_2, c_7⟩ | exact ol_pf (fun q => q.1 c_2) | exact ol_pf (fun q => q.2 c_7), rfl, rfl, rfl⟩
    · refine ol_iconst (v := 1) C dX11_in_10 (by decide) ?_
      refine ol_goto (tgt := 15) C dX11_in_11 (by decide) ?_
      exact ol_iret C hret hlk rfl (by decide) (by decide) dX11_in_15 ⟨by first | exact ol_pt ⟨c_2, c_7⟩ | exact ol_pf (fun q => q.1 c_2) | exact ol_pf (fun q => q.2 c_7), rfl, rfl, rfl⟩

set_option maxRecDepth 100000 in
set_option maxHeartbeats 4000000 in
theorem mm_isThing (l : Launch) (D : va_G) (cA : Nat → ClassId) {ro : Nat → Nat} {I : Nat → Nat → Int32} {F : Nat → Nat → Option Nat} {ad : Nat → Nat} (hL : ol_L ro F ad) {n : Nat} (hn : I (ad 10) 0 = nI n) (h40 : n ≤ 40) (t : Int32) : ol_M l D cA yX11_isThing cX11_isThing 2 (some FieldType.boolean) (ol_r 1 0 0) [.ref (ad 10), .int t] ro I F (ol_ei (ol_p (ol_k n t)) ro I F) := by
  refine ol_M.of (by decide +kernel) (Nat.le_of_ble_eq_true rfl) (by simp [Value.category, ol_rfc]) ?_
  intro p e s m args below meth c C hret hlk hin
  have hm : ol_is ro (ad 10) (.inl 9) := hL.is 10 (by decide) (by decide) rfl
  refine ol_iload_n C dX11_isThing_0 rfl rfl ?_
  refine ol_iconst (v := 0) C dX11_isThing_1 (by decide) ?_
  refine ol_aload_n C dX11_isThing_2 rfl rfl (by first | exact ol_isq_r _ | exact ol_isq_q _ | exact ol_isq_n) ?_
  refine ol_gI (k := 0) C (by assumption) rfl rfl wd_580 (.inl rfl) dX11_isThing_3 ?_
  refine ol_iconst (v := 1) C dX11_isThing_6 (by decide) ?_
  refine ol_isub C dX11_isThing_7 ?_
  refine ol_callS C (mm_in l D cA t 0 (I (ad 10) 0 - 1)) wd_674 wd_4 wd_672 wd_673 mh_X11_in (by decide) rfl (by first | exact Nat.le_of_ble_eq_true rfl | simp [ol_rfc, Value.category]) dX11_isThing_8 (ol_xi ?_)
  exact ol_iret C hret hlk (ol_p_nar _) (by decide) (by decide) dX11_isThing_11 ⟨by rw [hn, ol_p_c (ol_k_m1 (ol_40 h40))], rfl, rfl, rfl⟩

set_option maxRecDepth 100000 in
set_option maxHeartbeats 4000000 in
theorem mm_value (l : Launch) (D : va_G) (cA : Nat → ClassId) {ro : Nat → Nat} {I : Nat → Nat → Int32} {F : Nat → Nat → Option Nat} {ad : Nat → Nat} (hL : ol_L ro F ad) {n : Nat} (hn : I (ad 10) 0 = nI n) (h40 : n ≤ 40) (t v : Int32) : ol_M l D cA yX11_value cX11_value 4 (some FieldType.int) (ol_r 2 0 0) [.ref (ad 10), .int t, .int v] ro I F (ol_ei (ol_if (ol_k n t) (I (ad 24) t.toNatClampNeg) (-1000001)) ro (ol_if (ol_k n t) (ol_u2 I (ad 24) t.toNatClampNeg v) I) F) := by
  refine ol_M.of (by decide +kernel) (Nat.le_of_ble_eq_true rfl) (by simp [Value.category, ol_rfc]) ?_
  intro p e s m args below meth c C hret hlk hin
  have hm : ol_is ro (ad 10) (.inl 9) := hL.is 10 (by decide) (by decide) rfl
  have f_vs : F (ad 10) 3 = some (ad 24) := hL.mf 3 24 (by decide)
  have i_vs : ol_is ro (ad 24) (.inr (0, 40)) := hL.is 24 (by decide) (by decide) rfl
  refine ol_aload_n C dX11_value_0 rfl rfl (by first | exact ol_isq_r _ | exact ol_isq_q _ | exact ol_isq_n) ?_
  refine ol_iload_n C dX11_value_1 rfl rfl ?_
  refine ol_callV C (mm_isThing l D cA hL hn h40 t) hm.1 hm.2 rfl wd_685 wd_4 wd_682 wd_684 wq_12 mh_X11_isThing (by decide) rfl (by first | exact Nat.le_of_ble_eq_true rfl | simp [ol_rfc, Value.category]) dX11_value_2 (ol_xi ?_)
  refine ol_if_ne (tgt := 11) C dX11_value_5 (by decide) (fun c_5 => ?_) (fun c_5 => ?_)
  · have hK := ol_p_n.mp c_5
    obtain ⟨j, hj, rfl, hj31⟩ := ol_k_ix hK h40
    have hj40 : j < 40 := by omega
    refine ol_aload_n C dX11_value_11 rfl rfl (by first | exact ol_isq_r _ | exact ol_isq_q _ | exact ol_isq_n) ?_
    refine ol_gR (k := 3) C (by assumption) rfl rfl wd_583 (.inl rfl) dX11_value_12 ?_
    refine ol_rf (by assumption) ?_
    refine ol_iload_n C dX11_value_15 rfl rfl ?_
    refine ol_lI j C (by assumption) rfl hj40 (by decide) dX11_value_16 ?_
    refine ol_istore_n C dX11_value_17 rfl (by decide) ?_
    refine ol_aload_n C dX11_value_18 rfl rfl (by first | exact ol_isq_r _ | exact ol_isq_q _ | exact ol_isq_n) ?_
    refine ol_gR (k := 3) C (by assumption) rfl rfl wd_583 (.inl rfl) dX11_value_19 ?_
    refine ol_rf (by assumption) ?_
    refine ol_iload_n C dX11_value_22 rfl rfl ?_
    refine ol_iload_n C dX11_value_23 rfl rfl ?_
    refine ol_sI j C (by assumption) rfl hj40 (by decide) dX11_value_24 ?_
    refine ol_iload_n C dX11_value_25 rfl rfl ?_
    exact ol_iret C hret hlk rfl (by decide) (by decide) dX11_value_26 ⟨by rw [ol_if_t hK, nI_clamp hj31], rfl, by rw [ol_if_t hK, nI_clamp hj31], rfl⟩
  · have hK := ol_p_0.mp c_5
    refine ol_ldc (v := (-1000001)) C wd_686 dX11_value_8 ?_
    exact ol_iret C hret hlk rfl (by decide) (by decide) dX11_value_10 ⟨by rw [ol_if_f hK], rfl, by rw [ol_if_f hK], rfl⟩

set_option maxRecDepth 100000 in
set_option maxHeartbeats 4000000 in
theorem mm_key (l : Launch) (D : va_G) (cA : Nat → ClassId) {ro : Nat → Nat} {I : Nat → Nat → Int32} {F : Nat → Nat → Option Nat} {ad : Nat → Nat} (hL : ol_L ro F ad) {n : Nat} (hn : I (ad 10) 0 = nI n) (h40 : n ≤ 40) (t v : Int32) : ol_M l D cA yX11_key cX11_key 4 (some FieldType.int) (ol_r 2 0 0) [.ref (ad 10), .int t, .int v] ro I F (ol_ei (ol_if (ol_k n t) (I (ad 23) t.toNatClampNeg) (-1000001)) ro (ol_if (ol_k n t) (ol_u2 I (ad 23) t.toNatClampNeg v) I) F) := by
  refine ol_M.of (by decide +kernel) (Nat.le_of_ble_eq_true rfl) (by simp [Value.category, ol_rfc]) ?_
  intro p e s m args below meth c C hret hlk hin
  have hm : ol_is ro (ad 10) (.inl 9) := hL.is 10 (by decide) (by decide) rfl
  have f_keys : F (ad 10) 2 = some (ad 23) := hL.mf 2 23 (by decide)
  have i_keys : ol_is ro (ad 23) (.inr (0, 40)) := hL.is 23 (by decide) (by decide) rfl
  refine ol_aload_n C dX11_key_0 rfl rfl (by first | exact ol_isq_r _ | exact ol_isq_q _ | exact ol_isq_n) ?_
  refine ol_iload_n C dX11_key_1 rfl rfl ?_
  refine ol_callV C (mm_isThing l D cA hL hn h40 t) hm.1 hm.2 rfl wd_685 wd_4 wd_682 wd_684 wq_12 mh_X11_isThing (by decide) rfl (by first | exact Nat.le_of_ble_eq_true rfl | simp [ol_rfc, Value.category]) dX11_key_2 (ol_xi ?_)
  refine ol_if_ne (tgt := 11) C dX11_key_5 (by decide) (fun c_5 => ?_) (fun c_5 => ?_)
  · have hK := ol_p_n.mp c_5
    obtain ⟨j, hj, rfl, hj31⟩ := ol_k_ix hK h40
    have hj40 : j < 40 := by omega
    refine ol_aload_n C dX11_key_11 rfl rfl (by first | exact ol_isq_r _ | exact ol_isq_q _ | exact ol_isq_n) ?_
    refine ol_gR (k := 2) C (by assumption) rfl rfl wd_582 (.inl rfl) dX11_key_12 ?_
    refine ol_rf (by assumption) ?_
    refine ol_iload_n C dX11_key_15 rfl rfl ?_
    refine ol_lI j C (by assumption) rfl hj40 (by decide) dX11_key_16 ?_
    refine ol_istore_n C dX11_key_17 rfl (by decide) ?_
    refine ol_aload_n C dX11_key_18 rfl rfl (by first | exact ol_isq_r _ | exact ol_isq_q _ | exact ol_isq_n) ?_
    refine ol_gR (k := 2) C (by assumption) rfl rfl wd_582 (.inl rfl) dX11_key_19 ?_
    refine ol_rf (by assumption) ?_
    refine ol_iload_n C dX11_key_22 rfl rfl ?_
    refine ol_iload_n C dX11_key_23 rfl rfl ?_
    refine ol_sI j C (by assumption) rfl hj40 (by decide) dX11_key_24 ?_
    refine ol_iload_n C dX11_key_25 rfl rfl ?_
    exact ol_iret C hret hlk rfl (by decide) (by decide) dX11_key_26 ⟨by rw [ol_if_t hK, nI_clamp hj31], rfl, by rw [ol_if_t hK, nI_clamp hj31], rfl⟩
  · have hK := ol_p_0.mp c_5
    refine ol_ldc (v := (-1000001)) C wd_686 dX11_key_8 ?_
    exact ol_iret C hret hlk rfl (by decide) (by decide) dX11_key_10 ⟨by rw [ol_if_f hK], rfl, by rw [ol_if_f hK], rfl⟩

set_option maxRecDepth 100000 in
set_option maxHeartbeats 4000000 in
theorem mm_isBridge (l : Launch) (D : va_G) (cA : Nat → ClassId) {ro : Nat → Nat} {I : Nat → Nat → Int32} {F : Nat → Nat → Option Nat} {ad : Nat → Nat} (hL : ol_L ro F ad) {n : Nat} (h40 : n ≤ 40) {q : Option Nat} (hq : ∀ u, q = some u → u < n) : ol_M l D cA yX11_isBridge cX11_isBridge 2 (some FieldType.boolean) (ol_r 0 0 0) [.ref (ad 10), .int (ol_e q)] ro I F (ol_ei (ol_p (∃ u, q = some u ∧ I (ad 22) u = 2)) ro I F) := by
  refine ol_M.of (by decide +kernel) (Nat.le_of_ble_eq_true rfl) (by simp [Value.category, ol_rfc]) ?_
  intro p e s m args below meth c C hret hlk hin
  have hm : ol_is ro (ad 10) (.inl 9) := hL.is 10 (by decide) (by decide) rfl
  have f_sorts : F (ad 10) 1 = some (ad 22) := hL.mf 1 22 (by decide)
  have i_sorts : ol_is ro (ad 22) (.inr (0, 40)) := hL.is 22 (by decide) (by decide) rfl
  refine ol_iload_n C dX11_isBridge_0 rfl rfl ?_
  refine ol_ldc (v := (-1000009)) C wd_677 dX11_isBridge_1 ?_
  refine ol_icmp_eq (tgt := 20) C dX11_isBridge_3 (by decide) (fun c_3 => ?_) (fun c_3 => ?_)
  · have hz := ol_e_n (fun u hu => by have := hq u hu; omega) c_3
    refine ol_iconst (v := 0) C dX11_isBridge_20 (by decide) ?_
    exact ol_iret C hret hlk rfl (by decide) (by decide) dX11_isBridge_21 ⟨by first | exact ol_pt ⟨u, hu, c_13⟩ | exact ol_pf (fun ⟨w, e1, e2⟩ => absurd (hz.symm.trans e1) (by simp)) | exact ol_pf (fun ⟨w, e1, e2⟩ => c_13 (by cases hu.symm.trans e1; exact e2)), rfl, rfl, rfl⟩
  · obtain ⟨u, hu, eu⟩ := ol_e_s c_3
    have hu40 : u < 40 := by have := hq u hu; omega
    refine ol_aload_n C dX11_isBridge_6 rfl rfl (by first | exact ol_isq_r _ | exact ol_isq_q _ | exact ol_isq_n) ?_
    refine ol_gR (k := 1) C (by assumption) rfl rfl wd_581 (.inl rfl) dX11_isBridge_7 ?_
    refine ol_rf (by assumption) ?_
    refine ol_iload_n C dX11_isBridge_10 rfl rfl ?_
    refine ol_lI u C (by assumption) eu hu40 (by decide) dX11_isBridge_11 ?_
    refine ol_iconst (v := 2) C dX11_isBridge_12 (by decide) ?_
    refine ol_icmp_ne (tgt := 20) C dX11_isBridge_13 (by decide) (fun c_13 => ?_) (fun c_13 => ?_)
    · refine ol_iconst (v := 0) C dX11_isBridge_20 (by decide) ?_
      exact ol_iret C hret hlk rfl (by decide) (by decide) dX11_isBridge_21 ⟨by first | exact ol_pt ⟨u, hu, c_13⟩ | exact ol_pf (fun ⟨w, e1, e2⟩ => absurd (hz.symm.trans e1) (by simp)) | exact ol_pf (fun ⟨w, e1, e2⟩ => c_13 (by cases hu.symm.trans e1; exact e2)), rfl, rfl, rfl⟩
    · refine ol_iconst (v := 1) C dX11_isBridge_16 (by decide) ?_
      refine ol_goto (tgt := 21) C dX11_isBridge_17 (by decide) ?_
      exact ol_iret C hret hlk rfl (by decide) (by decide) dX11_isBridge_21 ⟨by first | exact ol_pt ⟨u, hu, c_13⟩ | exact ol_pf (fun ⟨w, e1, e2⟩ => absurd (hz.symm.trans e1) (by simp)) | exact ol_pf (fun ⟨w, e1, e2⟩ => c_13 (by cases hu.symm.trans e1; exact e2)), rfl, rfl, rfl⟩

set_option maxRecDepth 100000 in
set_option maxHeartbeats 4000000 in
theorem mm_tellKey (l : Launch) (D : va_G) (cA : Nat → ClassId) {ro : Nat → Nat} {I : Nat → Nat → Int32} {F : Nat → Nat → Option Nat} {ad : Nat → Nat} (hL : ol_L ro F ad) {t : Nat} (ht : t < 40) : ol_M l D cA yX11_tellKey cX11_tellKey 2 (some FieldType.int) (ol_r 0 0 0) [.ref (ad 10), .int (nI t)] ro I F (ol_ei (ol_p (I (ad 22) t = 6 ∧ I (ad 27) t = 0)) ro (ol_u2 I (ad 10) 9 (I (ad 23) t)) F) := by
  refine ol_M.of (by decide +kernel) (Nat.le_of_ble_eq_true rfl) (by simp [Value.category, ol_rfc]) ?_
  intro p e s m args below meth c C hret hlk hin
  have hm : ol_is ro (ad 10) (.inl 9) := hL.is 10 (by decide) (by decide) rfl
  have f_sorts : F (ad 10) 1 = some (ad 22) := hL.mf 1 22 (by decide)
  have i_sorts : ol_is ro (ad 22) (.inr (0, 40)) := hL.is 22 (by decide) (by decide) rfl
  have f_keys : F (ad 10) 2 = some (ad 23) := hL.mf 2 23 (by decide)
  have i_keys : ol_is ro (ad 23) (.inr (0, 40)) := hL.is 23 (by decide) (by decide) rfl
  have f_isHeld : F (ad 10) 6 = some (ad 27) := hL.mf 6 27 (by decide)
  have i_isHeld : ol_is ro (ad 27) (.inr (1, 40)) := hL.is 27 (by decide) (by decide) rfl
  have n22 : ad 22 ≠ ad 10 := hL.ne (by decide) (by decide) (by decide)
  have n27 : ad 27 ≠ ad 10 := hL.ne (by decide) (by decide) (by decide)
  refine ol_aload_n C dX11_tellKey_0 rfl rfl (by first | exact ol_isq_r _ | exact ol_isq_q _ | exact ol_isq_n) ?_
  refine ol_aload_n C dX11_tellKey_1 rfl rfl (by first | exact ol_isq_r _ | exact ol_isq_q _ | exact ol_isq_n) ?_
  refine ol_gR (k := 2) C (by assumption) rfl rfl wd_582 (.inl rfl) dX11_tellKey_2 ?_
  refine ol_rf (by assumption) ?_
  refine ol_iload_n C dX11_tellKey_5 rfl rfl ?_
  refine ol_lI t C (by assumption) rfl ht (by decide) dX11_tellKey_6 ?_
  refine ol_pI (k := 9) C (by assumption) rfl rfl wd_589 (.inl rfl) rfl rfl dX11_tellKey_7 ?_
  refine ol_aload_n C dX11_tellKey_10 rfl rfl (by first | exact ol_isq_r _ | exact ol_isq_q _ | exact ol_isq_n) ?_
  refine ol_gR (k := 1) C (by assumption) rfl rfl wd_581 (.inl rfl) dX11_tellKey_11 ?_
  refine ol_rf (by assumption) ?_
  refine ol_iload_n C dX11_tellKey_14 rfl rfl ?_
  refine ol_lI t C (by assumption) rfl ht (by decide) dX11_tellKey_15 ?_
  rw [ol_u2_a I _ n22]
  refine ol_bipush (v := 6) C dX11_tellKey_16 (by decide) ?_
  refine ol_icmp_ne (tgt := 34) C dX11_tellKey_18 (by decide) (fun c_18 => ?_) (fun c_18 => ?_)
  · refine ol_iconst (v := 0) C dX11_tellKey_34 (by decide) ?_
    exact ol_iret C hret hlk rfl (by decide) (by decide) dX11_tellKey_35 ⟨by first | exact ol_pt ⟨c_18, c_27⟩ | exact ol_pf (fun q => c_18 q.1) | exact ol_pf (fun q => c_27 q.2), rfl, rfl, rfl⟩
  · refine ol_aload_n C dX11_tellKey_21 rfl rfl (by first | exact ol_isq_r _ | exact ol_isq_q _ | exact ol_isq_n) ?_
    refine ol_gR (k := 6) C (by assumption) rfl rfl wd_586 (.inl rfl) dX11_tellKey_22 ?_
    refine ol_rf (by assumption) ?_
    refine ol_iload_n C dX11_tellKey_25 rfl rfl ?_
    refine ol_lZ t C (by assumption) rfl ht (by decide) dX11_tellKey_26 ?_
    rw [ol_u2_a I _ n27]
    refine ol_if_ne (tgt := 34) C dX11_tellKey_27 (by decide) (fun c_27 => ?_) (fun c_27 => ?_)
    · refine ol_iconst (v := 0) C dX11_tellKey_34 (by decide) ?_
      exact ol_iret C hret hlk rfl (by decide) (by decide) dX11_tellKey_35 ⟨by first | exact ol_pt ⟨c_18, c_27⟩ | exact ol_pf (fun q => c_18 q.1) | exact ol_pf (fun q => c_27 q.2), rfl, rfl, rfl⟩
    · refine ol_iconst (v := 1) C dX11_tellKey_30 (by decide) ?_
      refine ol_goto (tgt := 35) C dX11_tellKey_31 (by decide) ?_
      exact ol_iret C hret hlk rfl (by decide) (by decide) dX11_tellKey_35 ⟨by first | exact ol_pt ⟨c_18, c_27⟩ | exact ol_pf (fun q => c_18 q.1) | exact ol_pf (fun q => c_27 q.2), rfl, rfl, rfl⟩

set_option maxRecDepth 100000 in
set_option maxHeartbeats 4000000 in
theorem mm_tellValue (l : Launch) (D : va_G) (cA : Nat → ClassId) {ro : Nat → Nat} {I : Nat → Nat → Int32} {F : Nat → Nat → Option Nat} {ad : Nat → Nat} (hL : ol_L ro F ad) {t : Nat} (ht : t < 40) : ol_M l D cA yX11_tellValue cX11_tellValue 3 (some FieldType.int) (ol_r 0 0 0) [.ref (ad 10), .int (nI t)] ro I F (ol_ei (ol_if (I (ad 22) t = 3 ∧ I (ad 24) t = 0) 4 0) ro (ol_u2 I (ad 10) 9 (ol_if (I (ad 22) t = 3) (ol_if (I (ad 24) t = 0) 0 (100 / I (ad 24) t)) (ol_if (I (ad 22) t = 1) (2 * I (ad 24) t) (ol_if (I (ad 22) t = 4) (2 * I (ad 24) t + 1) (I (ad 24) t))))) F) := by
  refine ol_M.of (by decide +kernel) (Nat.le_of_ble_eq_true rfl) (by simp [Value.category, ol_rfc]) ?_
  intro p e s m args below meth c C hret hlk hin
  have hm : ol_is ro (ad 10) (.inl 9) := hL.is 10 (by decide) (by decide) rfl
  have f_sorts : F (ad 10) 1 = some (ad 22) := hL.mf 1 22 (by decide)
  have i_sorts : ol_is ro (ad 22) (.inr (0, 40)) := hL.is 22 (by decide) (by decide) rfl
  have f_vs : F (ad 10) 3 = some (ad 24) := hL.mf 3 24 (by decide)
  have i_vs : ol_is ro (ad 24) (.inr (0, 40)) := hL.is 24 (by decide) (by decide) rfl
  refine ol_aload_n C dX11_tellValue_0 rfl rfl (by first | exact ol_isq_r _ | exact ol_isq_q _ | exact ol_isq_n) ?_
  refine ol_gR (k := 3) C (by assumption) rfl rfl wd_583 (.inl rfl) dX11_tellValue_1 ?_
  refine ol_rf (by assumption) ?_
  refine ol_iload_n C dX11_tellValue_4 rfl rfl ?_
  refine ol_lI t C (by assumption) rfl ht (by decide) dX11_tellValue_5 ?_
  refine ol_istore_n C dX11_tellValue_6 rfl (by decide) ?_
  refine ol_aload_n C dX11_tellValue_7 rfl rfl (by first | exact ol_isq_r _ | exact ol_isq_q _ | exact ol_isq_n) ?_
  refine ol_gR (k := 1) C (by assumption) rfl rfl wd_581 (.inl rfl) dX11_tellValue_8 ?_
  refine ol_rf (by assumption) ?_
  refine ol_iload_n C dX11_tellValue_11 rfl rfl ?_
  refine ol_lI t C (by assumption) rfl ht (by decide) dX11_tellValue_12 ?_
  refine ol_iconst (v := 3) C dX11_tellValue_13 (by decide) ?_
  refine ol_icmp_ne (tgt := 43) C dX11_tellValue_14 (by decide) (fun c_14 => ?_) (fun c_14 => ?_)
  · refine ol_aload_n C dX11_tellValue_43 rfl rfl (by first | exact ol_isq_r _ | exact ol_isq_q _ | exact ol_isq_n) ?_
    refine ol_aload_n C dX11_tellValue_44 rfl rfl (by first | exact ol_isq_r _ | exact ol_isq_q _ | exact ol_isq_n) ?_
    refine ol_gR (k := 1) C (by assumption) rfl rfl wd_581 (.inl rfl) dX11_tellValue_45 ?_
    refine ol_rf (by assumption) ?_
    refine ol_iload_n C dX11_tellValue_48 rfl rfl ?_
    refine ol_lI t C (by assumption) rfl ht (by decide) dX11_tellValue_49 ?_
    refine ol_iconst (v := 1) C dX11_tellValue_50 (by decide) ?_
    refine ol_icmp_ne (tgt := 60) C dX11_tellValue_51 (by decide) (fun c_51 => ?_) (fun c_51 => ?_)
    · refine ol_aload_n C dX11_tellValue_60 rfl rfl (by first | exact ol_isq_r _ | exact ol_isq_q _ | exact ol_isq_n) ?_
      refine ol_gR (k := 1) C (by assumption) rfl rfl wd_581 (.inl rfl) dX11_tellValue_61 ?_
      refine ol_rf (by assumption) ?_
      refine ol_iload_n C dX11_tellValue_64 rfl rfl ?_
      refine ol_lI t C (by assumption) rfl ht (by decide) dX11_tellValue_65 ?_
      refine ol_iconst (v := 4) C dX11_tellValue_66 (by decide) ?_
      refine ol_icmp_ne (tgt := 78) C dX11_tellValue_67 (by decide) (fun c_67 => ?_) (fun c_67 => ?_)
      · refine ol_iload_n C dX11_tellValue_78 rfl rfl ?_
        refine ol_pI (k := 9) C (by assumption) rfl rfl wd_589 (.inl rfl) rfl rfl dX11_tellValue_79 ?_
        refine ol_iconst (v := 0) C dX11_tellValue_82 (by decide) ?_
        exact ol_iret C hret hlk rfl (by decide) (by decide) dX11_tellValue_83 ⟨by rw [ol_if_f (fun q => c_14 q.1)], rfl, by rw [ol_if_f c_14, ol_if_f c_51, ol_if_f c_67], rfl⟩
      · refine ol_iconst (v := 2) C dX11_tellValue_70 (by decide) ?_
        refine ol_iload_n C dX11_tellValue_71 rfl rfl ?_
        refine ol_imul C dX11_tellValue_72 ?_
        refine ol_iconst (v := 1) C dX11_tellValue_73 (by decide) ?_
        refine ol_iadd C dX11_tellValue_74 ?_
        refine ol_goto (tgt := 79) C dX11_tellValue_75 (by decide) ?_
        refine ol_pI (k := 9) C (by assumption) rfl rfl wd_589 (.inl rfl) rfl rfl dX11_tellValue_79 ?_
        refine ol_iconst (v := 0) C dX11_tellValue_82 (by decide) ?_
        exact ol_iret C hret hlk rfl (by decide) (by decide) dX11_tellValue_83 ⟨by rw [ol_if_f (fun q => c_14 q.1)], rfl, by rw [ol_if_f c_14, ol_if_f c_51, ol_if_t c_67], rfl⟩
    · refine ol_iconst (v := 2) C dX11_tellValue_54 (by decide) ?_
      refine ol_iload_n C dX11_tellValue_55 rfl rfl ?_
      refine ol_imul C dX11_tellValue_56 ?_
      refine ol_goto (tgt := 79) C dX11_tellValue_57 (by decide) ?_
      refine ol_pI (k := 9) C (by assumption) rfl rfl wd_589 (.inl rfl) rfl rfl dX11_tellValue_79 ?_
      refine ol_iconst (v := 0) C dX11_tellValue_82 (by decide) ?_
      exact ol_iret C hret hlk rfl (by decide) (by decide) dX11_tellValue_83 ⟨by rw [ol_if_f (fun q => c_14 q.1)], rfl, by rw [ol_if_f c_14, ol_if_t c_51], rfl⟩
  · refine ol_aload_n C dX11_tellValue_17 rfl rfl (by first | exact ol_isq_r _ | exact ol_isq_q _ | exact ol_isq_n) ?_
    refine ol_iload_n C dX11_tellValue_18 rfl rfl ?_
    refine ol_if_ne (tgt := 26) C dX11_tellValue_19 (by decide) (fun c_19 => ?_) (fun c_19 => ?_)
    · refine ol_bipush (v := 100) C dX11_tellValue_26 (by decide) ?_
      refine ol_iload_n C dX11_tellValue_28 rfl rfl ?_
      refine ol_idiv C dX11_tellValue_29 (by assumption) ?_
      refine ol_pI (k := 9) C (by assumption) rfl rfl wd_589 (.inl rfl) rfl rfl dX11_tellValue_30 ?_
      refine ol_iload_n C dX11_tellValue_33 rfl rfl ?_
      refine ol_if_ne (tgt := 41) C dX11_tellValue_34 (by decide) (fun c_34 => ?_) (fun c_34 => ?_)
      · refine ol_iconst (v := 0) C dX11_tellValue_41 (by decide) ?_
        exact ol_iret C hret hlk rfl (by decide) (by decide) dX11_tellValue_42 ⟨by rw [ol_if_f (fun q => c_34 q.2)], rfl, by rw [ol_if_t c_14, ol_if_f c_19], rfl⟩
      · exact absurd c_34 c_19
    · refine ol_iconst (v := 0) C dX11_tellValue_22 (by decide) ?_
      refine ol_goto (tgt := 30) C dX11_tellValue_23 (by decide) ?_
      refine ol_pI (k := 9) C (by assumption) rfl rfl wd_589 (.inl rfl) rfl rfl dX11_tellValue_30 ?_
      refine ol_iload_n C dX11_tellValue_33 rfl rfl ?_
      refine ol_if_ne (tgt := 41) C dX11_tellValue_34 (by decide) (fun c_34 => ?_) (fun c_34 => ?_)
      · exact absurd c_19 c_34
      · refine ol_iconst (v := 4) C dX11_tellValue_37 (by decide) ?_
        refine ol_goto (tgt := 42) C dX11_tellValue_38 (by decide) ?_
        exact ol_iret C hret hlk rfl (by decide) (by decide) dX11_tellValue_42 ⟨by rw [ol_if_t ⟨c_14, c_34⟩], rfl, by rw [ol_if_t c_14, ol_if_t c_19], rfl⟩
end
section
set_option maxRecDepth 100000 in
set_option maxHeartbeats 4000000 in
theorem mm_next (l : Launch) (D : va_G) (cA : Nat → ClassId) {ro : Nat → Nat} {I : Nat → Nat → Int32} {F : Nat → Nat → Option Nat} {ad : Nat → Nat} (hL : ol_L ro F ad) {n : Nat} (hn : I (ad 10) 0 = nI n) (h40 : n ≤ 40) (t u : Int32) : ol_M l D cA yX11_next cX11_next 3 (some FieldType.int) (ol_r 2 0 0) [.ref (ad 10), .int t, .int u] ro I F (ol_ei (ol_if (ol_k n t ∧ (u = -1000009 ∨ ol_k n u)) 1 (-1000001)) ro (ol_if (ol_k n t ∧ (u = -1000009 ∨ ol_k n u)) (ol_u2 I (ad 25) t.toNatClampNeg u) I) F) := by
  refine ol_M.of (by decide +kernel) (Nat.le_of_ble_eq_true rfl) (by simp [Value.category, ol_rfc]) ?_
  intro p e s m args below meth c C hret hlk hin
  have hm : ol_is ro (ad 10) (.inl 9) := hL.is 10 (by decide) (by decide) rfl
  have f_nexts : F (ad 10) 4 = some (ad 25) := hL.mf 4 25 (by decide)
  have i_nexts : ol_is ro (ad 25) (.inr (0, 40)) := hL.is 25 (by decide) (by decide) rfl
  refine ol_aload_n C dX11_next_0 rfl rfl (by first | exact ol_isq_r _ | exact ol_isq_q _ | exact ol_isq_n) ?_
  refine ol_iload_n C dX11_next_1 rfl rfl ?_
  refine ol_callV C (mm_isThing l D cA hL hn h40 t) hm.1 hm.2 rfl wd_685 wd_4 wd_682 wd_684 wq_12 mh_X11_isThing (by decide) rfl (by first | exact Nat.le_of_ble_eq_true rfl | simp [ol_rfc, Value.category]) dX11_next_2 (ol_xi ?_)
  refine ol_if_eq (tgt := 22) C dX11_next_5 (by decide) (fun c_5 => ?_) (fun c_5 => ?_)
  · have hK := ol_p_0.mp c_5
    have hQ : ¬ (ol_k n t ∧ (u = -1000009 ∨ ol_k n u)) := fun q => hK q.1
    refine ol_ldc (v := (-1000001)) C wd_686 dX11_next_22 ?_
    exact ol_iret C hret hlk rfl (by decide) (by decide) dX11_next_24 ⟨by rw [ol_if_f hQ], rfl, by rw [ol_if_f hQ], rfl⟩
  · have hK := ol_p_n.mp c_5
    obtain ⟨j, hj, ej, hj31⟩ := ol_k_ix hK h40
    have hj40 : j < 40 := by omega
    refine ol_iload_n C dX11_next_8 rfl rfl ?_
    refine ol_ldc (v := (-1000009)) C wd_677 dX11_next_9 ?_
    refine ol_icmp_eq (tgt := 25) C dX11_next_11 (by decide) (fun c_11 => ?_) (fun c_11 => ?_)
    · have hQ : ol_k n t ∧ (u = -1000009 ∨ ol_k n u) := ⟨hK, Or.inl c_11⟩
      refine ol_aload_n C dX11_next_25 rfl rfl (by first | exact ol_isq_r _ | exact ol_isq_q _ | exact ol_isq_n) ?_
      refine ol_gR (k := 4) C (by assumption) rfl rfl wd_584 (.inl rfl) dX11_next_26 ?_
      refine ol_rf (by assumption) ?_
      refine ol_iload_n C dX11_next_29 rfl rfl ?_
      refine ol_iload_n C dX11_next_30 rfl rfl ?_
      refine ol_sI j C (by assumption) ej hj40 (by decide) dX11_next_31 ?_
      refine ol_iconst (v := 1) C dX11_next_32 (by decide) ?_
      exact ol_iret C hret hlk rfl (by decide) (by decide) dX11_next_33 ⟨by rw [ol_if_t hQ], rfl, by rw [ol_if_t hQ, ej, nI_clamp hj31], rfl⟩
    · refine ol_aload_n C dX11_next_14 rfl rfl (by first | exact ol_isq_r _ | exact ol_isq_q _ | exact ol_isq_n) ?_
      refine ol_iload_n C dX11_next_15 rfl rfl ?_
      refine ol_callV C (mm_isThing l D cA hL hn h40 u) hm.1 hm.2 rfl wd_685 wd_4 wd_682 wd_684 wq_12 mh_X11_isThing (by decide) rfl (by first | exact Nat.le_of_ble_eq_true rfl | simp [ol_rfc, Value.category]) dX11_next_16 (ol_xi ?_)
      refine ol_if_ne (tgt := 25) C dX11_next_19 (by decide) (fun c_19 => ?_) (fun c_19 => ?_)
      · have hQ : ol_k n t ∧ (u = -1000009 ∨ ol_k n u) := ⟨hK, Or.inr (ol_p_n.mp c_19)⟩
        refine ol_aload_n C dX11_next_25 rfl rfl (by first | exact ol_isq_r _ | exact ol_isq_q _ | exact ol_isq_n) ?_
        refine ol_gR (k := 4) C (by assumption) rfl rfl wd_584 (.inl rfl) dX11_next_26 ?_
        refine ol_rf (by assumption) ?_
        refine ol_iload_n C dX11_next_29 rfl rfl ?_
        refine ol_iload_n C dX11_next_30 rfl rfl ?_
        refine ol_sI j C (by assumption) ej hj40 (by decide) dX11_next_31 ?_
        refine ol_iconst (v := 1) C dX11_next_32 (by decide) ?_
        exact ol_iret C hret hlk rfl (by decide) (by decide) dX11_next_33 ⟨by rw [ol_if_t hQ], rfl, by rw [ol_if_t hQ, ej, nI_clamp hj31], rfl⟩
      · have hQ : ¬ (ol_k n t ∧ (u = -1000009 ∨ ol_k n u)) := fun q => q.2.elim c_11 (ol_p_0.mp c_19)
        refine ol_ldc (v := (-1000001)) C wd_686 dX11_next_22 ?_
        exact ol_iret C hret hlk rfl (by decide) (by decide) dX11_next_24 ⟨by rw [ol_if_f hQ], rfl, by rw [ol_if_f hQ], rfl⟩

set_option maxRecDepth 100000 in
set_option maxHeartbeats 4000000 in
theorem mm_place (l : Launch) (D : va_G) (cA : Nat → ClassId) {ro : Nat → Nat} {I : Nat → Nat → Int32} {F : Nat → Nat → Option Nat} {ad : Nat → Nat} (hL : ol_L ro F ad) {n : Nat} (hn : I (ad 10) 0 = nI n) (h40 : n ≤ 40) (t i u : Int32) : ol_M l D cA yX11_place cX11_place 4 (some FieldType.int) (ol_r 2 0 0) [.ref (ad 10), .int t, .int i, .int u] ro I F (ol_ei (ol_if (ol_k n t ∧ (u = -1000009 ∨ ol_k n u)) (ol_if (ol_k 6 i) 1 (-1000002)) (-1000001)) ro (ol_if ((ol_k n t ∧ (u = -1000009 ∨ ol_k n u)) ∧ ol_k 6 i) (ol_u2 I (ad 26) (6 * t.toNatClampNeg + i.toNatClampNeg) u) I) F) := by
  refine ol_M.of (by decide +kernel) (Nat.le_of_ble_eq_true rfl) (by simp [Value.category, ol_rfc]) ?_
  intro p e s m args below meth c C hret hlk hin
  have hm : ol_is ro (ad 10) (.inl 9) := hL.is 10 (by decide) (by decide) rfl
  have f_places : F (ad 10) 5 = some (ad 26) := hL.mf 5 26 (by decide)
  have i_places : ol_is ro (ad 26) (.inr (0, 240)) := hL.is 26 (by decide) (by decide) rfl
  refine ol_aload_n C dX11_place_0 rfl rfl (by first | exact ol_isq_r _ | exact ol_isq_q _ | exact ol_isq_n) ?_
  refine ol_iload_n C dX11_place_1 rfl rfl ?_
  refine ol_callV C (mm_isThing l D cA hL hn h40 t) hm.1 hm.2 rfl wd_685 wd_4 wd_682 wd_684 wq_12 mh_X11_isThing (by decide) rfl (by first | exact Nat.le_of_ble_eq_true rfl | simp [ol_rfc, Value.category]) dX11_place_2 (ol_xi ?_)
  refine ol_if_eq (tgt := 22) C dX11_place_5 (by decide) (fun c_5 => ?_) (fun c_5 => ?_)
  · have hK := ol_p_0.mp c_5
    have hQ : ¬ (ol_k n t ∧ (u = -1000009 ∨ ol_k n u)) := fun q => hK q.1
    refine ol_ldc (v := (-1000001)) C wd_686 dX11_place_22 ?_
    exact ol_iret C hret hlk rfl (by decide) (by decide) dX11_place_24 ⟨by rw [ol_if_f hQ], rfl, by rw [ol_if_f (fun q => hQ q.1)], rfl⟩
  · have hK := ol_p_n.mp c_5
    obtain ⟨j, hj, ej, hj31⟩ := ol_k_ix hK h40
    have hj40 : j < 40 := by omega
    refine ol_iload_n C dX11_place_8 rfl rfl ?_
    refine ol_ldc (v := (-1000009)) C wd_677 dX11_place_9 ?_
    refine ol_icmp_eq (tgt := 25) C dX11_place_11 (by decide) (fun c_11 => ?_) (fun c_11 => ?_)
    · have hQ : ol_k n t ∧ (u = -1000009 ∨ ol_k n u) := ⟨hK, Or.inl c_11⟩
      refine ol_iload_n C dX11_place_25 rfl rfl ?_
      refine ol_iconst (v := 0) C dX11_place_26 (by decide) ?_
      refine ol_iconst (v := 5) C dX11_place_27 (by decide) ?_
      refine ol_callS C (mm_in l D cA i 0 5) wd_674 wd_4 wd_672 wd_673 mh_X11_in (by decide) rfl (by first | exact Nat.le_of_ble_eq_true rfl | simp [ol_rfc, Value.category]) dX11_place_28 (ol_xi ?_)
      refine ol_if_ne (tgt := 37) C dX11_place_31 (by decide) (fun c_31 => ?_) (fun c_31 => ?_)
      · have hI := (ol_k_5).mp (ol_p_n.mp c_31)
        obtain ⟨v, hv, ev, hv31⟩ := ol_k_ix hI (by omega)
        refine ol_aload_n C dX11_place_37 rfl rfl (by first | exact ol_isq_r _ | exact ol_isq_q _ | exact ol_isq_n) ?_
        refine ol_gR (k := 5) C (by assumption) rfl rfl wd_585 (.inl rfl) dX11_place_38 ?_
        refine ol_rf (by assumption) ?_
        refine ol_bipush (v := 6) C dX11_place_41 (by decide) ?_
        refine ol_iload_n C dX11_place_43 rfl rfl ?_
        refine ol_imul C dX11_place_44 ?_
        refine ol_iload_n C dX11_place_45 rfl rfl ?_
        refine ol_iadd C dX11_place_46 ?_
        refine ol_iload_n C dX11_place_47 rfl rfl ?_
        refine ol_sI (6 * j + v) C (by assumption) (by rw [ej, ev]; exact ol_ma rfl) (by omega) (by decide) dX11_place_48 ?_
        refine ol_iconst (v := 1) C dX11_place_49 (by decide) ?_
        exact ol_iret C hret hlk rfl (by decide) (by decide) dX11_place_50 ⟨by rw [ol_if_t hQ, ol_if_t hI], rfl, by rw [ol_if_t ⟨hQ, hI⟩, ej, ev, nI_clamp hj31, nI_clamp hv31], rfl⟩
      · have hI : ¬ ol_k 6 i := fun q => ol_p_0.mp c_31 (ol_k_5.mpr q)
        refine ol_ldc (v := (-1000002)) C wd_675 dX11_place_34 ?_
        exact ol_iret C hret hlk rfl (by decide) (by decide) dX11_place_36 ⟨by rw [ol_if_t hQ, ol_if_f hI], rfl, by rw [ol_if_f (fun q => hI q.2)], rfl⟩
    · refine ol_aload_n C dX11_place_14 rfl rfl (by first | exact ol_isq_r _ | exact ol_isq_q _ | exact ol_isq_n) ?_
      refine ol_iload_n C dX11_place_15 rfl rfl ?_
      refine ol_callV C (mm_isThing l D cA hL hn h40 u) hm.1 hm.2 rfl wd_685 wd_4 wd_682 wd_684 wq_12 mh_X11_isThing (by decide) rfl (by first | exact Nat.le_of_ble_eq_true rfl | simp [ol_rfc, Value.category]) dX11_place_16 (ol_xi ?_)
      refine ol_if_ne (tgt := 25) C dX11_place_19 (by decide) (fun c_19 => ?_) (fun c_19 => ?_)
      · have hQ : ol_k n t ∧ (u = -1000009 ∨ ol_k n u) := ⟨hK, Or.inr (ol_p_n.mp c_19)⟩
        refine ol_iload_n C dX11_place_25 rfl rfl ?_
        refine ol_iconst (v := 0) C dX11_place_26 (by decide) ?_
        refine ol_iconst (v := 5) C dX11_place_27 (by decide) ?_
        refine ol_callS C (mm_in l D cA i 0 5) wd_674 wd_4 wd_672 wd_673 mh_X11_in (by decide) rfl (by first | exact Nat.le_of_ble_eq_true rfl | simp [ol_rfc, Value.category]) dX11_place_28 (ol_xi ?_)
        refine ol_if_ne (tgt := 37) C dX11_place_31 (by decide) (fun c_31 => ?_) (fun c_31 => ?_)
        · have hI := (ol_k_5).mp (ol_p_n.mp c_31)
          obtain ⟨v, hv, ev, hv31⟩ := ol_k_ix hI (by omega)
          refine ol_aload_n C dX11_place_37 rfl rfl (by first | exact ol_isq_r _ | exact ol_isq_q _ | exact ol_isq_n) ?_
          refine ol_gR (k := 5) C (by assumption) rfl rfl wd_585 (.inl rfl) dX11_place_38 ?_
          refine ol_rf (by assumption) ?_
          refine ol_bipush (v := 6) C dX11_place_41 (by decide) ?_
          refine ol_iload_n C dX11_place_43 rfl rfl ?_
          refine ol_imul C dX11_place_44 ?_
          refine ol_iload_n C dX11_place_45 rfl rfl ?_
          refine ol_iadd C dX11_place_46 ?_
          refine ol_iload_n C dX11_place_47 rfl rfl ?_
          refine ol_sI (6 * j + v) C (by assumption) (by rw [ej, ev]; exact ol_ma rfl) (by omega) (by decide) dX11_place_48 ?_
          refine ol_iconst (v := 1) C dX11_place_49 (by decide) ?_
          exact ol_iret C hret hlk rfl (by decide) (by decide) dX11_place_50 ⟨by rw [ol_if_t hQ, ol_if_t hI], rfl, by rw [ol_if_t ⟨hQ, hI⟩, ej, ev, nI_clamp hj31, nI_clamp hv31], rfl⟩
        · have hI : ¬ ol_k 6 i := fun q => ol_p_0.mp c_31 (ol_k_5.mpr q)
          refine ol_ldc (v := (-1000002)) C wd_675 dX11_place_34 ?_
          exact ol_iret C hret hlk rfl (by decide) (by decide) dX11_place_36 ⟨by rw [ol_if_t hQ, ol_if_f hI], rfl, by rw [ol_if_f (fun q => hI q.2)], rfl⟩
      · have hQ : ¬ (ol_k n t ∧ (u = -1000009 ∨ ol_k n u)) := fun q => q.2.elim c_11 (ol_p_0.mp c_19)
        refine ol_ldc (v := (-1000001)) C wd_686 dX11_place_22 ?_
        exact ol_iret C hret hlk rfl (by decide) (by decide) dX11_place_24 ⟨by rw [ol_if_f hQ], rfl, by rw [ol_if_f (fun q => hQ q.1)], rfl⟩

set_option maxRecDepth 100000 in
set_option maxHeartbeats 4000000 in
theorem mm_hold (l : Launch) (D : va_G) (cA : Nat → ClassId) {ro : Nat → Nat} {I : Nat → Nat → Int32} {F : Nat → Nat → Option Nat} {ad : Nat → Nat} (hL : ol_L ro F ad) {n : Nat} (hn : I (ad 10) 0 = nI n) (h40 : n ≤ 40) (t b : Int32) (hb : vp_nar .boolean b = b) : ol_M l D cA yX11_hold cX11_hold 4 (some FieldType.int) (ol_r 2 0 0) [.ref (ad 10), .int t, .int b] ro I F (ol_ei (ol_if (ol_k n t) (ol_p (¬ I (ad 27) t.toNatClampNeg = 0)) (-1000001)) ro (ol_if (ol_k n t) (ol_u2 I (ad 27) t.toNatClampNeg b) I) F) := by
  refine ol_M.of (by decide +kernel) (Nat.le_of_ble_eq_true rfl) (by simp [Value.category, ol_rfc]) ?_
  intro p e s m args below meth c C hret hlk hin
  have hm : ol_is ro (ad 10) (.inl 9) := hL.is 10 (by decide) (by decide) rfl
  have f_isHeld : F (ad 10) 6 = some (ad 27) := hL.mf 6 27 (by decide)
  have i_isHeld : ol_is ro (ad 27) (.inr (1, 40)) := hL.is 27 (by decide) (by decide) rfl
  refine ol_aload_n C dX11_hold_0 rfl rfl (by first | exact ol_isq_r _ | exact ol_isq_q _ | exact ol_isq_n) ?_
  refine ol_iload_n C dX11_hold_1 rfl rfl ?_
  refine ol_callV C (mm_isThing l D cA hL hn h40 t) hm.1 hm.2 rfl wd_685 wd_4 wd_682 wd_684 wq_12 mh_X11_isThing (by decide) rfl (by first | exact Nat.le_of_ble_eq_true rfl | simp [ol_rfc, Value.category]) dX11_hold_2 (ol_xi ?_)
  refine ol_if_ne (tgt := 11) C dX11_hold_5 (by decide) (fun c_5 => ?_) (fun c_5 => ?_)
  · have hK := ol_p_n.mp c_5
    obtain ⟨j, hj, rfl, hj31⟩ := ol_k_ix hK h40
    have hj40 : j < 40 := by omega
    refine ol_aload_n C dX11_hold_11 rfl rfl (by first | exact ol_isq_r _ | exact ol_isq_q _ | exact ol_isq_n) ?_
    refine ol_gR (k := 6) C (by assumption) rfl rfl wd_586 (.inl rfl) dX11_hold_12 ?_
    refine ol_rf (by assumption) ?_
    refine ol_iload_n C dX11_hold_15 rfl rfl ?_
    refine ol_lZ j C (by assumption) rfl hj40 (by decide) dX11_hold_16 ?_
    refine ol_if_eq (tgt := 24) C dX11_hold_17 (by decide) (fun c_17 => ?_) (fun c_17 => ?_)
    · refine ol_iconst (v := 0) C dX11_hold_24 (by decide) ?_
      refine ol_istore_n C dX11_hold_25 rfl (by decide) ?_
      refine ol_aload_n C dX11_hold_26 rfl rfl (by first | exact ol_isq_r _ | exact ol_isq_q _ | exact ol_isq_n) ?_
      refine ol_gR (k := 6) C (by assumption) rfl rfl wd_586 (.inl rfl) dX11_hold_27 ?_
      refine ol_rf (by assumption) ?_
      refine ol_iload_n C dX11_hold_30 rfl rfl ?_
      refine ol_iload_n C dX11_hold_31 rfl rfl ?_
      refine ol_sZ j C (by assumption) rfl hj40 (by decide) hb dX11_hold_32 ?_
      refine ol_iload_n C dX11_hold_33 rfl rfl ?_
      exact ol_iret C hret hlk rfl (by decide) (by decide) dX11_hold_34 ⟨by rw [ol_if_t hK, nI_clamp hj31]; exact ol_pf (fun q => q c_17), rfl, by rw [ol_if_t hK, nI_clamp hj31], rfl⟩
    · refine ol_iconst (v := 1) C dX11_hold_20 (by decide) ?_
      refine ol_goto (tgt := 25) C dX11_hold_21 (by decide) ?_
      refine ol_istore_n C dX11_hold_25 rfl (by decide) ?_
      refine ol_aload_n C dX11_hold_26 rfl rfl (by first | exact ol_isq_r _ | exact ol_isq_q _ | exact ol_isq_n) ?_
      refine ol_gR (k := 6) C (by assumption) rfl rfl wd_586 (.inl rfl) dX11_hold_27 ?_
      refine ol_rf (by assumption) ?_
      refine ol_iload_n C dX11_hold_30 rfl rfl ?_
      refine ol_iload_n C dX11_hold_31 rfl rfl ?_
      refine ol_sZ j C (by assumption) rfl hj40 (by decide) hb dX11_hold_32 ?_
      refine ol_iload_n C dX11_hold_33 rfl rfl ?_
      exact ol_iret C hret hlk rfl (by decide) (by decide) dX11_hold_34 ⟨by rw [ol_if_t hK, nI_clamp hj31]; exact ol_pt c_17, rfl, by rw [ol_if_t hK, nI_clamp hj31], rfl⟩
  · have hK := ol_p_0.mp c_5
    refine ol_ldc (v := (-1000001)) C wd_686 dX11_hold_8 ?_
    exact ol_iret C hret hlk rfl (by decide) (by decide) dX11_hold_10 ⟨by rw [ol_if_f hK], rfl, by rw [ol_if_f hK], rfl⟩

set_option maxRecDepth 100000 in
set_option maxHeartbeats 4000000 in
theorem mm_isNode (l : Launch) (D : va_G) (cA : Nat → ClassId) {ro : Nat → Nat} {I : Nat → Nat → Int32} {F : Nat → Nat → Option Nat} {ad : Nat → Nat} (hL : ol_L ro F ad) {w nn : Nat} (hw : I (ad 10) 12 = nI w) (hw2 : w < 2) (hnn : I (ad 31) w = nI nn) (h40 : nn ≤ 40) (t : Int32) : ol_M l D cA yX11_isNode cX11_isNode 2 (some FieldType.boolean) (ol_r 1 0 0) [.ref (ad 10), .int t] ro I F (ol_ei (ol_p (ol_k nn t)) ro I F) := by
  refine ol_M.of (by decide +kernel) (Nat.le_of_ble_eq_true rfl) (by simp [Value.category, ol_rfc]) ?_
  intro p e s m args below meth c C hret hlk hin
  have hm : ol_is ro (ad 10) (.inl 9) := hL.is 10 (by decide) (by decide) rfl
  have f_nodes : F (ad 10) 13 = some (ad 31) := hL.mf 13 31 (by decide)
  have i_nodes : ol_is ro (ad 31) (.inr (0, 2)) := hL.is 31 (by decide) (by decide) rfl
  refine ol_iload_n C dX11_isNode_0 rfl rfl ?_
  refine ol_iconst (v := 0) C dX11_isNode_1 (by decide) ?_
  refine ol_aload_n C dX11_isNode_2 rfl rfl (by first | exact ol_isq_r _ | exact ol_isq_q _ | exact ol_isq_n) ?_
  refine ol_gR (k := 13) C (by assumption) rfl rfl wd_593 (.inl rfl) dX11_isNode_3 ?_
  refine ol_rf (by assumption) ?_
  refine ol_aload_n C dX11_isNode_6 rfl rfl (by first | exact ol_isq_r _ | exact ol_isq_q _ | exact ol_isq_n) ?_
  refine ol_gI (k := 12) C (by assumption) rfl rfl wd_592 (.inl rfl) dX11_isNode_7 ?_
  refine ol_lI w C (by assumption) hw hw2 (by decide) dX11_isNode_10 ?_
  refine ol_iconst (v := 1) C dX11_isNode_11 (by decide) ?_
  refine ol_isub C dX11_isNode_12 ?_
  refine ol_callS C (mm_in l D cA t 0 (I (ad 31) w - 1)) wd_674 wd_4 wd_672 wd_673 mh_X11_in (by decide) rfl (by first | exact Nat.le_of_ble_eq_true rfl | simp [ol_rfc, Value.category]) dX11_isNode_13 (ol_xi ?_)
  exact ol_iret C hret hlk (ol_p_nar _) (by decide) (by decide) dX11_isNode_16 ⟨by rw [hnn, ol_p_c (ol_k_m1 (ol_40 h40))], rfl, rfl, rfl⟩

set_option maxRecDepth 100000 in
set_option maxHeartbeats 4000000 in
theorem mm_of (l : Launch) (D : va_G) (cA : Nat → ClassId) {ro : Nat → Nat} {I : Nat → Nat → Int32} {F : Nat → Nat → Option Nat} {ad : Nat → Nat} (hL : ol_L ro F ad) {w nn : Nat} (hw : I (ad 10) 12 = nI w) (hw2 : w < 2) (hnn : I (ad 31) w = nI nn) (h40 : nn ≤ 40) (t : Int32) : ol_M l D cA yX11_of cX11_of 2 (some FieldType.int) (ol_r 2 0 0) [.ref (ad 10), .int t] ro I F (ol_ei (ol_if (ol_k nn t) (I (ad 32) (40 * w + t.toNatClampNeg)) (-1000001)) ro I F) := by
  refine ol_M.of (by decide +kernel) (Nat.le_of_ble_eq_true rfl) (by simp [Value.category, ol_rfc]) ?_
  intro p e s m args below meth c C hret hlk hin
  have hm : ol_is ro (ad 10) (.inl 9) := hL.is 10 (by decide) (by decide) rfl
  have f_thingOf : F (ad 10) 14 = some (ad 32) := hL.mf 14 32 (by decide)
  have i_thingOf : ol_is ro (ad 32) (.inr (0, 80)) := hL.is 32 (by decide) (by decide) rfl
  refine ol_aload_n C dX11_of_0 rfl rfl (by first | exact ol_isq_r _ | exact ol_isq_q _ | exact ol_isq_n) ?_
  refine ol_iload_n C dX11_of_1 rfl rfl ?_
  refine ol_callV C (mm_isNode l D cA hL hw hw2 hnn h40 t) hm.1 hm.2 rfl wd_766 wd_4 wd_763 wd_765 wq_22 mh_X11_isNode (by decide) rfl (by first | exact Nat.le_of_ble_eq_true rfl | simp [ol_rfc, Value.category]) dX11_of_2 (ol_xi ?_)
  refine ol_if_eq (tgt := 25) C dX11_of_5 (by decide) (fun c_5 => ?_) (fun c_5 => ?_)
  · have hK := ol_p_0.mp c_5
    refine ol_ldc (v := (-1000001)) C wd_686 dX11_of_25 ?_
    exact ol_iret C hret hlk rfl (by decide) (by decide) dX11_of_27 ⟨by rw [ol_if_f hK], rfl, rfl, rfl⟩
  · have hK := ol_p_n.mp c_5
    obtain ⟨j, hj, ej, hj31⟩ := ol_k_ix hK h40
    have hj40 : j < 40 := by omega
    refine ol_aload_n C dX11_of_8 rfl rfl (by first | exact ol_isq_r _ | exact ol_isq_q _ | exact ol_isq_n) ?_
    refine ol_gR (k := 14) C (by assumption) rfl rfl wd_594 (.inl rfl) dX11_of_9 ?_
    refine ol_rf (by assumption) ?_
    refine ol_bipush (v := 40) C dX11_of_12 (by decide) ?_
    refine ol_aload_n C dX11_of_14 rfl rfl (by first | exact ol_isq_r _ | exact ol_isq_q _ | exact ol_isq_n) ?_
    refine ol_gI (k := 12) C (by assumption) rfl rfl wd_592 (.inl rfl) dX11_of_15 ?_
    refine ol_imul C dX11_of_18 ?_
    refine ol_iload_n C dX11_of_19 rfl rfl ?_
    refine ol_iadd C dX11_of_20 ?_
    refine ol_lI (40 * w + j) C (by assumption) (by rw [hw, ej]; exact ol_ma rfl) (by omega) (by decide) dX11_of_21 ?_
    refine ol_goto (tgt := 27) C dX11_of_22 (by decide) ?_
    exact ol_iret C hret hlk rfl (by decide) (by decide) dX11_of_27 ⟨by rw [ol_if_t hK, ej, nI_clamp hj31], rfl, rfl, rfl⟩

set_option maxRecDepth 100000 in
set_option maxHeartbeats 4000000 in
theorem mm_column (l : Launch) (D : va_G) (cA : Nat → ClassId) {ro : Nat → Nat} {I : Nat → Nat → Int32} {F : Nat → Nat → Option Nat} {ad : Nat → Nat} (hL : ol_L ro F ad) {w nn : Nat} (hw : I (ad 10) 12 = nI w) (hw2 : w < 2) (hnn : I (ad 31) w = nI nn) (h40 : nn ≤ 40) (t : Int32) : ol_M l D cA yX11_column cX11_column 2 (some FieldType.int) (ol_r 2 0 0) [.ref (ad 10), .int t] ro I F (ol_ei (ol_if (ol_k nn t) (I (ad 34) (40 * w + t.toNatClampNeg)) (-1000001)) ro I F) := by
  refine ol_M.of (by decide +kernel) (Nat.le_of_ble_eq_true rfl) (by simp [Value.category, ol_rfc]) ?_
  intro p e s m args below meth c C hret hlk hin
  have hm : ol_is ro (ad 10) (.inl 9) := hL.is 10 (by decide) (by decide) rfl
  have f_columns : F (ad 10) 16 = some (ad 34) := hL.mf 16 34 (by decide)
  have i_columns : ol_is ro (ad 34) (.inr (0, 80)) := hL.is 34 (by decide) (by decide) rfl
  refine ol_aload_n C dX11_column_0 rfl rfl (by first | exact ol_isq_r _ | exact ol_isq_q _ | exact ol_isq_n) ?_
  refine ol_iload_n C dX11_column_1 rfl rfl ?_
  refine ol_callV C (mm_isNode l D cA hL hw hw2 hnn h40 t) hm.1 hm.2 rfl wd_766 wd_4 wd_763 wd_765 wq_22 mh_X11_isNode (by decide) rfl (by first | exact Nat.le_of_ble_eq_true rfl | simp [ol_rfc, Value.category]) dX11_column_2 (ol_xi ?_)
  refine ol_if_eq (tgt := 25) C dX11_column_5 (by decide) (fun c_5 => ?_) (fun c_5 => ?_)
  · have hK := ol_p_0.mp c_5
    refine ol_ldc (v := (-1000001)) C wd_686 dX11_column_25 ?_
    exact ol_iret C hret hlk rfl (by decide) (by decide) dX11_column_27 ⟨by rw [ol_if_f hK], rfl, rfl, rfl⟩
  · have hK := ol_p_n.mp c_5
    obtain ⟨j, hj, ej, hj31⟩ := ol_k_ix hK h40
    have hj40 : j < 40 := by omega
    refine ol_aload_n C dX11_column_8 rfl rfl (by first | exact ol_isq_r _ | exact ol_isq_q _ | exact ol_isq_n) ?_
    refine ol_gR (k := 16) C (by assumption) rfl rfl wd_596 (.inl rfl) dX11_column_9 ?_
    refine ol_rf (by assumption) ?_
    refine ol_bipush (v := 40) C dX11_column_12 (by decide) ?_
    refine ol_aload_n C dX11_column_14 rfl rfl (by first | exact ol_isq_r _ | exact ol_isq_q _ | exact ol_isq_n) ?_
    refine ol_gI (k := 12) C (by assumption) rfl rfl wd_592 (.inl rfl) dX11_column_15 ?_
    refine ol_imul C dX11_column_18 ?_
    refine ol_iload_n C dX11_column_19 rfl rfl ?_
    refine ol_iadd C dX11_column_20 ?_
    refine ol_lI (40 * w + j) C (by assumption) (by rw [hw, ej]; exact ol_ma rfl) (by omega) (by decide) dX11_column_21 ?_
    refine ol_goto (tgt := 27) C dX11_column_22 (by decide) ?_
    exact ol_iret C hret hlk rfl (by decide) (by decide) dX11_column_27 ⟨by rw [ol_if_t hK, ej, nI_clamp hj31], rfl, rfl, rfl⟩

set_option maxRecDepth 100000 in
set_option maxHeartbeats 4000000 in
theorem mm_arcs (l : Launch) (D : va_G) (cA : Nat → ClassId) {ro : Nat → Nat} {I : Nat → Nat → Int32} {F : Nat → Nat → Option Nat} {ad : Nat → Nat} (hL : ol_L ro F ad) {w nn : Nat} (hw : I (ad 10) 12 = nI w) (hw2 : w < 2) (hnn : I (ad 31) w = nI nn) (h40 : nn ≤ 40) (t : Int32) : ol_M l D cA yX11_arcs cX11_arcs 2 (some FieldType.int) (ol_r 2 0 0) [.ref (ad 10), .int t] ro I F (ol_ei (ol_if (ol_k nn t) (I (ad 35) (41 * w + t.toNatClampNeg + 1) - I (ad 35) (41 * w + t.toNatClampNeg)) (-1000001)) ro I F) := by
  refine ol_M.of (by decide +kernel) (Nat.le_of_ble_eq_true rfl) (by simp [Value.category, ol_rfc]) ?_
  intro p e s m args below meth c C hret hlk hin
  have hm : ol_is ro (ad 10) (.inl 9) := hL.is 10 (by decide) (by decide) rfl
  have f_firstArc : F (ad 10) 17 = some (ad 35) := hL.mf 17 35 (by decide)
  have i_firstArc : ol_is ro (ad 35) (.inr (0, 82)) := hL.is 35 (by decide) (by decide) rfl
  refine ol_aload_n C dX11_arcs_0 rfl rfl (by first | exact ol_isq_r _ | exact ol_isq_q _ | exact ol_isq_n) ?_
  refine ol_iload_n C dX11_arcs_1 rfl rfl ?_
  refine ol_callV C (mm_isNode l D cA hL hw hw2 hnn h40 t) hm.1 hm.2 rfl wd_766 wd_4 wd_763 wd_765 wq_22 mh_X11_isNode (by decide) rfl (by first | exact Nat.le_of_ble_eq_true rfl | simp [ol_rfc, Value.category]) dX11_arcs_2 (ol_xi ?_)
  refine ol_if_eq (tgt := 42) C dX11_arcs_5 (by decide) (fun c_5 => ?_) (fun c_5 => ?_)
  · have hK := ol_p_0.mp c_5
    refine ol_ldc (v := (-1000001)) C wd_686 dX11_arcs_42 ?_
    exact ol_iret C hret hlk rfl (by decide) (by decide) dX11_arcs_44 ⟨by rw [ol_if_f hK], rfl, rfl, rfl⟩
  · have hK := ol_p_n.mp c_5
    obtain ⟨j, hj, ej, hj31⟩ := ol_k_ix hK h40
    have hj40 : j < 40 := by omega
    refine ol_aload_n C dX11_arcs_8 rfl rfl (by first | exact ol_isq_r _ | exact ol_isq_q _ | exact ol_isq_n) ?_
    refine ol_gR (k := 17) C (by assumption) rfl rfl wd_597 (.inl rfl) dX11_arcs_9 ?_
    refine ol_rf (by assumption) ?_
    refine ol_bipush (v := 41) C dX11_arcs_12 (by decide) ?_
    refine ol_aload_n C dX11_arcs_14 rfl rfl (by first | exact ol_isq_r _ | exact ol_isq_q _ | exact ol_isq_n) ?_
    refine ol_gI (k := 12) C (by assumption) rfl rfl wd_592 (.inl rfl) dX11_arcs_15 ?_
    refine ol_imul C dX11_arcs_18 ?_
    refine ol_iload_n C dX11_arcs_19 rfl rfl ?_
    refine ol_iadd C dX11_arcs_20 ?_
    refine ol_iconst (v := 1) C dX11_arcs_21 (by decide) ?_
    refine ol_iadd C dX11_arcs_22 ?_
    refine ol_lI (41 * w + j + 1) C (by assumption) (by rw [hw, ej]; exact (congrArg (· + 1) (ol_ma rfl)).trans (nI_1 _)) (by omega) (by decide) dX11_arcs_23 ?_
    refine ol_aload_n C dX11_arcs_24 rfl rfl (by first | exact ol_isq_r _ | exact ol_isq_q _ | exact ol_isq_n) ?_
    refine ol_gR (k := 17) C (by assumption) rfl rfl wd_597 (.inl rfl) dX11_arcs_25 ?_
    refine ol_rf (by assumption) ?_
    refine ol_bipush (v := 41) C dX11_arcs_28 (by decide) ?_
    refine ol_aload_n C dX11_arcs_30 rfl rfl (by first | exact ol_isq_r _ | exact ol_isq_q _ | exact ol_isq_n) ?_
    refine ol_gI (k := 12) C (by assumption) rfl rfl wd_592 (.inl rfl) dX11_arcs_31 ?_
    refine ol_imul C dX11_arcs_34 ?_
    refine ol_iload_n C dX11_arcs_35 rfl rfl ?_
    refine ol_iadd C dX11_arcs_36 ?_
    refine ol_lI (41 * w + j) C (by assumption) (by rw [hw, ej]; exact ol_ma rfl) (by omega) (by decide) dX11_arcs_37 ?_
    refine ol_isub C dX11_arcs_38 ?_
    refine ol_goto (tgt := 44) C dX11_arcs_39 (by decide) ?_
    exact ol_iret C hret hlk rfl (by decide) (by decide) dX11_arcs_44 ⟨by rw [ol_if_t hK, ej, nI_clamp hj31], rfl, rfl, rfl⟩

set_option maxRecDepth 100000 in
set_option maxHeartbeats 4000000 in
theorem mm_node (l : Launch) (D : va_G) (cA : Nat → ClassId) {ro : Nat → Nat} {I : Nat → Nat → Int32} {F : Nat → Nat → Option Nat} {ad : Nat → Nat} (hL : ol_L ro F ad) {n w nn : Nat} (hn : I (ad 10) 0 = nI n) (h40n : n ≤ 40) (hw : I (ad 10) 12 = nI w) (hw2 : w < 2) (hnn : I (ad 31) w = nI nn) (h40 : nn ≤ 40) (t : Int32) : ol_M l D cA yX11_node cX11_node 2 (some FieldType.int) (ol_r 2 0 0) [.ref (ad 10), .int t] ro I F (ol_ei (ol_if (ol_k n t) (ol_if (nn = 0 ∨ I (ad 33) (40 * w + t.toNatClampNeg) < 0) (-1000009) (I (ad 33) (40 * w + t.toNatClampNeg))) (-1000001)) ro I F) := by
  refine ol_M.of (by decide +kernel) (Nat.le_of_ble_eq_true rfl) (by simp [Value.category, ol_rfc]) ?_
  intro p e s m args below meth c C hret hlk hin
  have hm : ol_is ro (ad 10) (.inl 9) := hL.is 10 (by decide) (by decide) rfl
  have f_nodes : F (ad 10) 13 = some (ad 31) := hL.mf 13 31 (by decide)
  have i_nodes : ol_is ro (ad 31) (.inr (0, 2)) := hL.is 31 (by decide) (by decide) rfl
  have f_nodeOf : F (ad 10) 15 = some (ad 33) := hL.mf 15 33 (by decide)
  have i_nodeOf : ol_is ro (ad 33) (.inr (0, 80)) := hL.is 33 (by decide) (by decide) rfl
  refine ol_aload_n C dX11_node_0 rfl rfl (by first | exact ol_isq_r _ | exact ol_isq_q _ | exact ol_isq_n) ?_
  refine ol_iload_n C dX11_node_1 rfl rfl ?_
  refine ol_callV C (mm_isThing l D cA hL hn h40n t) hm.1 hm.2 rfl wd_685 wd_4 wd_682 wd_684 wq_12 mh_X11_isThing (by decide) rfl (by first | exact Nat.le_of_ble_eq_true rfl | simp [ol_rfc, Value.category]) dX11_node_2 (ol_xi ?_)
  refine ol_if_ne (tgt := 11) C dX11_node_5 (by decide) (fun c_5 => ?_) (fun c_5 => ?_)
  · have hK := ol_p_n.mp c_5
    obtain ⟨j, hj, ej, hj31⟩ := ol_k_ix hK h40n
    have hj40 : j < 40 := by omega
    refine ol_aload_n C dX11_node_11 rfl rfl (by first | exact ol_isq_r _ | exact ol_isq_q _ | exact ol_isq_n) ?_
    refine ol_gR (k := 13) C (by assumption) rfl rfl wd_593 (.inl rfl) dX11_node_12 ?_
    refine ol_rf (by assumption) ?_
    refine ol_aload_n C dX11_node_15 rfl rfl (by first | exact ol_isq_r _ | exact ol_isq_q _ | exact ol_isq_n) ?_
    refine ol_gI (k := 12) C (by assumption) rfl rfl wd_592 (.inl rfl) dX11_node_16 ?_
    refine ol_lI w C (by assumption) hw hw2 (by decide) dX11_node_19 ?_
    refine ol_if_eq (tgt := 40) C dX11_node_20 (by decide) (fun c_20 => ?_) (fun c_20 => ?_)
    · have h0 : nn = 0 := ol_nI0 (hnn ▸ c_20) h40
      refine ol_ldc (v := (-1000009)) C wd_677 dX11_node_40 ?_
      refine ol_goto (tgt := 59) C dX11_node_42 (by decide) ?_
      exact ol_iret C hret hlk rfl (by decide) (by decide) dX11_node_59 ⟨by rw [ol_if_t hK, ol_if_t (Or.inl h0)], rfl, rfl, rfl⟩
    · have h0 : ¬ nn = 0 := fun q => c_20 (by rw [hnn, q]; rfl)
      refine ol_aload_n C dX11_node_23 rfl rfl (by first | exact ol_isq_r _ | exact ol_isq_q _ | exact ol_isq_n) ?_
      refine ol_gR (k := 15) C (by assumption) rfl rfl wd_595 (.inl rfl) dX11_node_24 ?_
      refine ol_rf (by assumption) ?_
      refine ol_bipush (v := 40) C dX11_node_27 (by decide) ?_
      refine ol_aload_n C dX11_node_29 rfl rfl (by first | exact ol_isq_r _ | exact ol_isq_q _ | exact ol_isq_n) ?_
      refine ol_gI (k := 12) C (by assumption) rfl rfl wd_592 (.inl rfl) dX11_node_30 ?_
      refine ol_imul C dX11_node_33 ?_
      refine ol_iload_n C dX11_node_34 rfl rfl ?_
      refine ol_iadd C dX11_node_35 ?_
      refine ol_lI (40 * w + j) C (by assumption) (by rw [hw, ej]; exact ol_ma rfl) (by omega) (by decide) dX11_node_36 ?_
      refine ol_if_ge (tgt := 45) C dX11_node_37 (by decide) (fun c_37 => ?_) (fun c_37 => ?_)
      · refine ol_aload_n C dX11_node_45 rfl rfl (by first | exact ol_isq_r _ | exact ol_isq_q _ | exact ol_isq_n) ?_
        refine ol_gR (k := 15) C (by assumption) rfl rfl wd_595 (.inl rfl) dX11_node_46 ?_
        refine ol_rf (by assumption) ?_
        refine ol_bipush (v := 40) C dX11_node_49 (by decide) ?_
        refine ol_aload_n C dX11_node_51 rfl rfl (by first | exact ol_isq_r _ | exact ol_isq_q _ | exact ol_isq_n) ?_
        refine ol_gI (k := 12) C (by assumption) rfl rfl wd_592 (.inl rfl) dX11_node_52 ?_
        refine ol_imul C dX11_node_55 ?_
        refine ol_iload_n C dX11_node_56 rfl rfl ?_
        refine ol_iadd C dX11_node_57 ?_
        refine ol_lI (40 * w + j) C (by assumption) (by rw [hw, ej]; exact ol_ma rfl) (by omega) (by decide) dX11_node_58 ?_
        exact ol_iret C hret hlk rfl (by decide) (by decide) dX11_node_59 ⟨by rw [ol_if_t hK, ej, nI_clamp hj31, ol_if_f (fun q => q.elim h0 (fun z => ol_nlt c_37 z))], rfl, rfl, rfl⟩
      · refine ol_ldc (v := (-1000009)) C wd_677 dX11_node_40 ?_
        refine ol_goto (tgt := 59) C dX11_node_42 (by decide) ?_
        exact ol_iret C hret hlk rfl (by decide) (by decide) dX11_node_59 ⟨by rw [ol_if_t hK, ej, nI_clamp hj31, ol_if_t (Or.inr (ol_nge c_37))], rfl, rfl, rfl⟩
  · have hK := ol_p_0.mp c_5
    refine ol_ldc (v := (-1000001)) C wd_686 dX11_node_8 ?_
    exact ol_iret C hret hlk rfl (by decide) (by decide) dX11_node_10 ⟨by rw [ol_if_f hK], rfl, rfl, rfl⟩

set_option maxRecDepth 100000 in
set_option maxHeartbeats 4000000 in
theorem mm_holes (l : Launch) (D : va_G) (cA : Nat → ClassId) {ro : Nat → Nat} {I : Nat → Nat → Int32} {F : Nat → Nat → Option Nat} {ad : Nat → Nat} (hL : ol_L ro F ad) {w nn : Nat} (hw : I (ad 10) 12 = nI w) (hw2 : w < 2) (hnn : I (ad 31) w = nI nn) (h40 : nn ≤ 40)  : ol_M l D cA yX11_holes cX11_holes 1 (some FieldType.int) (ol_r 0 0 0) [.ref (ad 10)] ro I F (ol_ei (ol_if (nn = 0) 0 (I (ad 40) w)) ro I F) := by
  refine ol_M.of (by decide +kernel) (Nat.le_of_ble_eq_true rfl) (by simp [Value.category, ol_rfc]) ?_
  intro p e s m args below meth c C hret hlk hin
  have hm : ol_is ro (ad 10) (.inl 9) := hL.is 10 (by decide) (by decide) rfl
  have f_nodes : F (ad 10) 13 = some (ad 31) := hL.mf 13 31 (by decide)
  have i_nodes : ol_is ro (ad 31) (.inr (0, 2)) := hL.is 31 (by decide) (by decide) rfl
  have f_holeMany : F (ad 10) 22 = some (ad 40) := hL.mf 22 40 (by decide)
  have i_holeMany : ol_is ro (ad 40) (.inr (0, 2)) := hL.is 40 (by decide) (by decide) rfl
  refine ol_aload_n C dX11_holes_0 rfl rfl (by first | exact ol_isq_r _ | exact ol_isq_q _ | exact ol_isq_n) ?_
  refine ol_gR (k := 13) C (by assumption) rfl rfl wd_593 (.inl rfl) dX11_holes_1 ?_
  refine ol_rf (by assumption) ?_
  refine ol_aload_n C dX11_holes_4 rfl rfl (by first | exact ol_isq_r _ | exact ol_isq_q _ | exact ol_isq_n) ?_
  refine ol_gI (k := 12) C (by assumption) rfl rfl wd_592 (.inl rfl) dX11_holes_5 ?_
  refine ol_lI w C (by assumption) hw hw2 (by decide) dX11_holes_8 ?_
  refine ol_if_ne (tgt := 16) C dX11_holes_9 (by decide) (fun c_9 => ?_) (fun c_9 => ?_)
  · have h0 : ¬ nn = 0 := fun q => c_9 (by rw [hnn, q]; rfl)
    refine ol_aload_n C dX11_holes_16 rfl rfl (by first | exact ol_isq_r _ | exact ol_isq_q _ | exact ol_isq_n) ?_
    refine ol_gR (k := 22) C (by assumption) rfl rfl wd_602 (.inl rfl) dX11_holes_17 ?_
    refine ol_rf (by assumption) ?_
    refine ol_aload_n C dX11_holes_20 rfl rfl (by first | exact ol_isq_r _ | exact ol_isq_q _ | exact ol_isq_n) ?_
    refine ol_gI (k := 12) C (by assumption) rfl rfl wd_592 (.inl rfl) dX11_holes_21 ?_
    refine ol_lI w C (by assumption) hw hw2 (by decide) dX11_holes_24 ?_
    exact ol_iret C hret hlk rfl (by decide) (by decide) dX11_holes_25 ⟨by rw [ol_if_f h0], rfl, rfl, rfl⟩
  · have h0 : nn = 0 := ol_nI0 (hnn ▸ c_9) h40
    refine ol_iconst (v := 0) C dX11_holes_12 (by decide) ?_
    refine ol_goto (tgt := 25) C dX11_holes_13 (by decide) ?_
    exact ol_iret C hret hlk rfl (by decide) (by decide) dX11_holes_25 ⟨by rw [ol_if_t h0], rfl, rfl, rfl⟩

set_option maxRecDepth 100000 in
set_option maxHeartbeats 4000000 in
theorem mm_asked (l : Launch) (D : va_G) (cA : Nat → ClassId) {ro : Nat → Nat} {I : Nat → Nat → Int32} {F : Nat → Nat → Option Nat} {ad : Nat → Nat} (hL : ol_L ro F ad) {n : Nat} (hn : I (ad 10) 0 = nI n) (h40 : n ≤ 40) (t : Int32) : ol_M l D cA yX11_asked cX11_asked 2 (some FieldType.int) (ol_r 2 0 0) [.ref (ad 10), .int t] ro I F (ol_ei (ol_if (ol_k n t) (I (ad 28) t.toNatClampNeg) (-1000001)) ro I F) := by
  refine ol_M.of (by decide +kernel) (Nat.le_of_ble_eq_true rfl) (by simp [Value.category, ol_rfc]) ?_
  intro p e s m args below meth c C hret hlk hin
  have hm : ol_is ro (ad 10) (.inl 9) := hL.is 10 (by decide) (by decide) rfl
  have f_askedOf : F (ad 10) 7 = some (ad 28) := hL.mf 7 28 (by decide)
  have i_askedOf : ol_is ro (ad 28) (.inr (0, 40)) := hL.is 28 (by decide) (by decide) rfl
  refine ol_aload_n C dX11_asked_0 rfl rfl (by first | exact ol_isq_r _ | exact ol_isq_q _ | exact ol_isq_n) ?_
  refine ol_iload_n C dX11_asked_1 rfl rfl ?_
  refine ol_callV C (mm_isThing l D cA hL hn h40 t) hm.1 hm.2 rfl wd_685 wd_4 wd_682 wd_684 wq_12 mh_X11_isThing (by decide) rfl (by first | exact Nat.le_of_ble_eq_true rfl | simp [ol_rfc, Value.category]) dX11_asked_2 (ol_xi ?_)
  refine ol_if_eq (tgt := 17) C dX11_asked_5 (by decide) (fun c_5 => ?_) (fun c_5 => ?_)
  · have hK := ol_p_0.mp c_5
    refine ol_ldc (v := (-1000001)) C wd_686 dX11_asked_17 ?_
    exact ol_iret C hret hlk rfl (by decide) (by decide) dX11_asked_19 ⟨by rw [ol_if_f hK], rfl, rfl, rfl⟩
  · have hK := ol_p_n.mp c_5
    obtain ⟨j, hj, rfl, hj31⟩ := ol_k_ix hK h40
    have hj40 : j < 40 := by omega
    refine ol_aload_n C dX11_asked_8 rfl rfl (by first | exact ol_isq_r _ | exact ol_isq_q _ | exact ol_isq_n) ?_
    refine ol_gR (k := 7) C (by assumption) rfl rfl wd_587 (.inl rfl) dX11_asked_9 ?_
    refine ol_rf (by assumption) ?_
    refine ol_iload_n C dX11_asked_12 rfl rfl ?_
    refine ol_lI j C (by assumption) rfl hj40 (by decide) dX11_asked_13 ?_
    refine ol_goto (tgt := 19) C dX11_asked_14 (by decide) ?_
    exact ol_iret C hret hlk rfl (by decide) (by decide) dX11_asked_19 ⟨by rw [ol_if_t hK, nI_clamp hj31], rfl, rfl, rfl⟩

set_option maxRecDepth 100000 in
set_option maxHeartbeats 4000000 in
theorem mm_count (l : Launch) (D : va_G) (cA : Nat → ClassId) {ro : Nat → Nat} {I : Nat → Nat → Int32} {F : Nat → Nat → Option Nat} {ad : Nat → Nat} (hL : ol_L ro F ad) {w nn : Nat} (hw : I (ad 10) 12 = nI w) (hw2 : w < 2) (hnn : I (ad 31) w = nI nn) (h40 : nn ≤ 40) (t : Int32) : ol_M l D cA yX11_count cX11_count 2 (some FieldType.int) (ol_r 0 0 0) [.ref (ad 10), .int t] ro I F (ol_ei (ol_if (t = 0) (I (ad 10) 0) (ol_if (t = 1) (nI nn) (ol_if (t = 2) (ol_if (nn = 0) 0 (I (ad 36) w)) (ol_if (t = 3) (I (ad 10) 23) (-1000002))))) ro I F) := by
  refine ol_M.of (by decide +kernel) (Nat.le_of_ble_eq_true rfl) (by simp [Value.category, ol_rfc]) ?_
  intro p e s m args below meth c C hret hlk hin
  have hm : ol_is ro (ad 10) (.inl 9) := hL.is 10 (by decide) (by decide) rfl
  have f_nodes : F (ad 10) 13 = some (ad 31) := hL.mf 13 31 (by decide)
  have i_nodes : ol_is ro (ad 31) (.inr (0, 2)) := hL.is 31 (by decide) (by decide) rfl
  have f_arcsIn : F (ad 10) 18 = some (ad 36) := hL.mf 18 36 (by decide)
  have i_arcsIn : ol_is ro (ad 36) (.inr (0, 2)) := hL.is 36 (by decide) (by decide) rfl
  refine ol_iload_n C dX11_count_0 rfl rfl ?_
  by_cases s_1_0 : t = 0
  · subst s_1_0
    refine ol_table_in (tgt := 32) C dX11_count_1 (by decide) (by decide) rfl (by decide) ?_
    refine ol_aload_n C dX11_count_32 rfl rfl (by first | exact ol_isq_r _ | exact ol_isq_q _ | exact ol_isq_n) ?_
    refine ol_gI (k := 0) C (by assumption) rfl rfl wd_580 (.inl rfl) dX11_count_33 ?_
    exact ol_iret C hret hlk rfl (by decide) (by decide) dX11_count_36 ⟨by rw [ol_if_t rfl], rfl, rfl, rfl⟩
  by_cases s_1_1 : t = 1
  · subst s_1_1
    refine ol_table_in (tgt := 37) C dX11_count_1 (by decide) (by decide) rfl (by decide) ?_
    refine ol_aload_n C dX11_count_37 rfl rfl (by first | exact ol_isq_r _ | exact ol_isq_q _ | exact ol_isq_n) ?_
    refine ol_gR (k := 13) C (by assumption) rfl rfl wd_593 (.inl rfl) dX11_count_38 ?_
    refine ol_rf (by assumption) ?_
    refine ol_aload_n C dX11_count_41 rfl rfl (by first | exact ol_isq_r _ | exact ol_isq_q _ | exact ol_isq_n) ?_
    refine ol_gI (k := 12) C (by assumption) rfl rfl wd_592 (.inl rfl) dX11_count_42 ?_
    refine ol_lI w C (by assumption) hw hw2 (by decide) dX11_count_45 ?_
    exact ol_iret C hret hlk rfl (by decide) (by decide) dX11_count_46 ⟨by rw [ol_if_f (by decide), ol_if_t rfl, hnn], rfl, rfl, rfl⟩
  by_cases s_1_2 : t = 2
  · subst s_1_2
    refine ol_table_in (tgt := 47) C dX11_count_1 (by decide) (by decide) rfl (by decide) ?_
    refine ol_aload_n C dX11_count_47 rfl rfl (by first | exact ol_isq_r _ | exact ol_isq_q _ | exact ol_isq_n) ?_
    refine ol_gR (k := 13) C (by assumption) rfl rfl wd_593 (.inl rfl) dX11_count_48 ?_
    refine ol_rf (by assumption) ?_
    refine ol_aload_n C dX11_count_51 rfl rfl (by first | exact ol_isq_r _ | exact ol_isq_q _ | exact ol_isq_n) ?_
    refine ol_gI (k := 12) C (by assumption) rfl rfl wd_592 (.inl rfl) dX11_count_52 ?_
    refine ol_lI w C (by assumption) hw hw2 (by decide) dX11_count_55 ?_
    refine ol_if_ne (tgt := 63) C dX11_count_56 (by decide) (fun c_56 => ?_) (fun c_56 => ?_)
    · have h0 : ¬ nn = 0 := fun q => c_56 (by rw [hnn, q]; rfl)
      refine ol_aload_n C dX11_count_63 rfl rfl (by first | exact ol_isq_r _ | exact ol_isq_q _ | exact ol_isq_n) ?_
      refine ol_gR (k := 18) C (by assumption) rfl rfl wd_598 (.inl rfl) dX11_count_64 ?_
      refine ol_rf (by assumption) ?_
      refine ol_aload_n C dX11_count_67 rfl rfl (by first | exact ol_isq_r _ | exact ol_isq_q _ | exact ol_isq_n) ?_
      refine ol_gI (k := 12) C (by assumption) rfl rfl wd_592 (.inl rfl) dX11_count_68 ?_
      refine ol_lI w C (by assumption) hw hw2 (by decide) dX11_count_71 ?_
      exact ol_iret C hret hlk rfl (by decide) (by decide) dX11_count_72 ⟨by rw [ol_if_f (by decide), ol_if_f (by decide), ol_if_t rfl, ol_if_f h0], rfl, rfl, rfl⟩
    · have h0 : nn = 0 := ol_nI0 (hnn ▸ c_56) h40
      refine ol_iconst (v := 0) C dX11_count_59 (by decide) ?_
      refine ol_goto (tgt := 72) C dX11_count_60 (by decide) ?_
      exact ol_iret C hret hlk rfl (by decide) (by decide) dX11_count_72 ⟨by rw [ol_if_f (by decide), ol_if_f (by decide), ol_if_t rfl, ol_if_t h0], rfl, rfl, rfl⟩
  by_cases s_1_3 : t = 3
  · subst s_1_3
    refine ol_table_in (tgt := 73) C dX11_count_1 (by decide) (by decide) rfl (by decide) ?_
    refine ol_aload_n C dX11_count_73 rfl rfl (by first | exact ol_isq_r _ | exact ol_isq_q _ | exact ol_isq_n) ?_
    refine ol_gI (k := 23) C (by assumption) rfl rfl wd_603 (.inl rfl) dX11_count_74 ?_
    exact ol_iret C hret hlk rfl (by decide) (by decide) dX11_count_77 ⟨by rw [ol_if_f (by decide), ol_if_f (by decide), ol_if_f (by decide), ol_if_t rfl], rfl, rfl, rfl⟩
  refine ol_table_out (x := t) (tgt := 78) C dX11_count_1 (by have := lv_neT s_1_0 (a := 0) rfl; have := lv_neT s_1_1 (a := 1) rfl; have := lv_neT s_1_2 (a := 2) rfl; have := lv_neT s_1_3 (a := 3) rfl; omega) (by decide) ?_
  refine ol_ldc (v := (-1000002)) C wd_675 dX11_count_78 ?_
  exact ol_iret C hret hlk rfl (by decide) (by decide) dX11_count_80 ⟨by rw [ol_if_f s_1_0, ol_if_f s_1_1, ol_if_f s_1_2, ol_if_f s_1_3], rfl, rfl, rfl⟩

set_option maxRecDepth 100000 in
set_option maxHeartbeats 4000000 in
theorem mm_refused (l : Launch) (D : va_G) (cA : Nat → ClassId) {ro : Nat → Nat} {I : Nat → Nat → Int32} {F : Nat → Nat → Option Nat} {ad : Nat → Nat} (hL : ol_L ro F ad) (t : Int32) : ol_M l D cA yX11_refused cX11_refused 2 (some FieldType.int) (ol_r 1 0 0) [.ref (ad 10), .int t] ro I F (ol_ei (ol_if (ol_k 3 t) (ol_if (I (ad 10) 26 = 0) (-1000009) (ol_if (t = 0) (I (ad 10) 24) (ol_if (t = 1) (I (ad 10) 25) (I (ad 10) 26)))) (-1000002)) ro I F) := by
  refine ol_M.of (by decide +kernel) (Nat.le_of_ble_eq_true rfl) (by simp [Value.category, ol_rfc]) ?_
  intro p e s m args below meth c C hret hlk hin
  have hm : ol_is ro (ad 10) (.inl 9) := hL.is 10 (by decide) (by decide) rfl
  refine ol_iload_n C dX11_refused_0 rfl rfl ?_
  refine ol_iconst (v := 0) C dX11_refused_1 (by decide) ?_
  refine ol_iconst (v := 2) C dX11_refused_2 (by decide) ?_
  refine ol_callS C (mm_in l D cA t 0 2) wd_674 wd_4 wd_672 wd_673 mh_X11_in (by decide) rfl (by first | exact Nat.le_of_ble_eq_true rfl | simp [ol_rfc, Value.category]) dX11_refused_3 (ol_xi ?_)
  refine ol_if_ne (tgt := 12) C dX11_refused_6 (by decide) (fun c_6 => ?_) (fun c_6 => ?_)
  · have hK := (ol_k_2).mp (ol_p_n.mp c_6)
    refine ol_aload_n C dX11_refused_12 rfl rfl (by first | exact ol_isq_r _ | exact ol_isq_q _ | exact ol_isq_n) ?_
    refine ol_gI (k := 26) C (by assumption) rfl rfl wd_606 (.inl rfl) dX11_refused_13 ?_
    refine ol_if_ne (tgt := 24) C dX11_refused_16 (by decide) (fun c_16 => ?_) (fun c_16 => ?_)
    · refine ol_iload_n C dX11_refused_24 rfl rfl ?_
      refine ol_if_ne (tgt := 35) C dX11_refused_25 (by decide) (fun c_25 => ?_) (fun c_25 => ?_)
      · refine ol_iload_n C dX11_refused_35 rfl rfl ?_
        refine ol_iconst (v := 1) C dX11_refused_36 (by decide) ?_
        refine ol_icmp_ne (tgt := 47) C dX11_refused_37 (by decide) (fun c_37 => ?_) (fun c_37 => ?_)
        · refine ol_aload_n C dX11_refused_47 rfl rfl (by first | exact ol_isq_r _ | exact ol_isq_q _ | exact ol_isq_n) ?_
          refine ol_gI (k := 26) C (by assumption) rfl rfl wd_606 (.inl rfl) dX11_refused_48 ?_
          exact ol_iret C hret hlk rfl (by decide) (by decide) dX11_refused_51 ⟨by rw [ol_if_t hK, ol_if_f c_16, ol_if_f c_25, ol_if_f c_37], rfl, rfl, rfl⟩
        · refine ol_aload_n C dX11_refused_40 rfl rfl (by first | exact ol_isq_r _ | exact ol_isq_q _ | exact ol_isq_n) ?_
          refine ol_gI (k := 25) C (by assumption) rfl rfl wd_605 (.inl rfl) dX11_refused_41 ?_
          refine ol_goto (tgt := 51) C dX11_refused_44 (by decide) ?_
          exact ol_iret C hret hlk rfl (by decide) (by decide) dX11_refused_51 ⟨by rw [ol_if_t hK, ol_if_f c_16, ol_if_f c_25, ol_if_t c_37], rfl, rfl, rfl⟩
      · refine ol_aload_n C dX11_refused_28 rfl rfl (by first | exact ol_isq_r _ | exact ol_isq_q _ | exact ol_isq_n) ?_
        refine ol_gI (k := 24) C (by assumption) rfl rfl wd_604 (.inl rfl) dX11_refused_29 ?_
        refine ol_goto (tgt := 51) C dX11_refused_32 (by decide) ?_
        exact ol_iret C hret hlk rfl (by decide) (by decide) dX11_refused_51 ⟨by rw [ol_if_t hK, ol_if_f c_16, ol_if_t c_25], rfl, rfl, rfl⟩
    · refine ol_ldc (v := (-1000009)) C wd_677 dX11_refused_19 ?_
      refine ol_goto (tgt := 51) C dX11_refused_21 (by decide) ?_
      exact ol_iret C hret hlk rfl (by decide) (by decide) dX11_refused_51 ⟨by rw [ol_if_t hK, ol_if_t c_16], rfl, rfl, rfl⟩
  · have hK : ¬ ol_k 3 t := fun q => ol_p_0.mp c_6 (ol_k_2.mpr q)
    refine ol_ldc (v := (-1000002)) C wd_675 dX11_refused_9 ?_
    exact ol_iret C hret hlk rfl (by decide) (by decide) dX11_refused_11 ⟨by rw [ol_if_f hK], rfl, rfl, rfl⟩

set_option maxRecDepth 100000 in
set_option maxHeartbeats 4000000 in
theorem mm_beginAll (l : Launch) (D : va_G) (cA : Nat → ClassId) {ro : Nat → Nat} {I : Nat → Nat → Int32} {F : Nat → Nat → Option Nat} {ad : Nat → Nat} (hL : ol_L ro F ad) {w : Nat} (hw : I (ad 10) 12 = nI w) (hw2 : w < 2) : ol_M l D cA yX11_beginAll cX11_beginAll 1 none (ol_r 0 0 0) [.ref (ad 10)] ro I F (ol_ev ro (ol_u2 (ol_u2 (ol_u2 (ol_u2 I (ad 10) 0 0) (ad 31) w 0) (ad 10) 23 0) (ad 10) 26 0) F) := by
  refine ol_M.of (by decide +kernel) (Nat.le_of_ble_eq_true rfl) (by simp [Value.category, ol_rfc]) ?_
  intro p e s m args below meth c C hret hlk hin
  have hm : ol_is ro (ad 10) (.inl 9) := hL.is 10 (by decide) (by decide) rfl
  have f_nodes : F (ad 10) 13 = some (ad 31) := hL.mf 13 31 (by decide)
  have i_nodes : ol_is ro (ad 31) (.inr (0, 2)) := hL.is 31 (by decide) (by decide) rfl
  refine ol_aload_n C dX11_beginAll_0 rfl rfl (by first | exact ol_isq_r _ | exact ol_isq_q _ | exact ol_isq_n) ?_
  refine ol_iconst (v := 0) C dX11_beginAll_1 (by decide) ?_
  refine ol_pI (k := 0) C (by assumption) rfl rfl wd_580 (.inl rfl) rfl rfl dX11_beginAll_2 ?_
  refine ol_aload_n C dX11_beginAll_5 rfl rfl (by first | exact ol_isq_r _ | exact ol_isq_q _ | exact ol_isq_n) ?_
  refine ol_gR (k := 13) C (by assumption) rfl rfl wd_593 (.inl rfl) dX11_beginAll_6 ?_
  refine ol_rf (by assumption) ?_
  refine ol_aload_n C dX11_beginAll_9 rfl rfl (by first | exact ol_isq_r _ | exact ol_isq_q _ | exact ol_isq_n) ?_
  refine ol_gI (k := 12) C (by assumption) rfl rfl wd_592 (.inl rfl) dX11_beginAll_10 ?_
  refine ol_iconst (v := 0) C dX11_beginAll_13 (by decide) ?_
  refine ol_sI w C (by assumption) ((ol_u2_k I _ (by decide)).trans hw) hw2 (by decide) dX11_beginAll_14 ?_
  refine ol_aload_n C dX11_beginAll_15 rfl rfl (by first | exact ol_isq_r _ | exact ol_isq_q _ | exact ol_isq_n) ?_
  refine ol_iconst (v := 0) C dX11_beginAll_16 (by decide) ?_
  refine ol_pI (k := 23) C (by assumption) rfl rfl wd_603 (.inl rfl) rfl rfl dX11_beginAll_17 ?_
  refine ol_aload_n C dX11_beginAll_20 rfl rfl (by first | exact ol_isq_r _ | exact ol_isq_q _ | exact ol_isq_n) ?_
  refine ol_iconst (v := 0) C dX11_beginAll_21 (by decide) ?_
  refine ol_pI (k := 26) C (by assumption) rfl rfl wd_606 (.inl rfl) rfl rfl dX11_beginAll_22 ?_
  exact ol_vret C hret hlk (by decide) (by decide) dX11_beginAll_25 ⟨rfl, rfl, rfl, rfl⟩

set_option maxRecDepth 100000 in
set_option maxHeartbeats 4000000 in
theorem mm_clear (l : Launch) (D : va_G) (cA : Nat → ClassId) {ro : Nat → Nat} {I : Nat → Nat → Int32} {F : Nat → Nat → Option Nat} {ad : Nat → Nat} (hL : ol_L ro F ad) {w : Nat} (hw : I (ad 10) 12 = nI w) (hw2 : w < 2) : ol_M l D cA yX11_clear cX11_clear 2 (some FieldType.int) (ol_r 1 0 0) [.ref (ad 10)] ro I F (ol_ei (I (ad 10) 0) ro (ol_u2 (ol_u2 (ol_u2 (ol_u2 I (ad 10) 0 0) (ad 31) w 0) (ad 10) 23 0) (ad 10) 26 0) F) := by
  refine ol_M.of (by decide +kernel) (Nat.le_of_ble_eq_true rfl) (by simp [Value.category, ol_rfc]) ?_
  intro p e s m args below meth c C hret hlk hin
  have hm : ol_is ro (ad 10) (.inl 9) := hL.is 10 (by decide) (by decide) rfl
  refine ol_aload_n C dX11_clear_0 rfl rfl (by first | exact ol_isq_r _ | exact ol_isq_q _ | exact ol_isq_n) ?_
  refine ol_gI (k := 0) C (by assumption) rfl rfl wd_580 (.inl rfl) dX11_clear_1 ?_
  refine ol_istore_n C dX11_clear_4 rfl (by decide) ?_
  refine ol_aload_n C dX11_clear_5 rfl rfl (by first | exact ol_isq_r _ | exact ol_isq_q _ | exact ol_isq_n) ?_
  refine ol_callV C (mm_beginAll l D cA hL hw hw2) hm.1 hm.2 rfl wd_579 wd_4 wd_576 wd_578 wq_11 mh_X11_beginAll (by decide) rfl (by first | exact Nat.le_of_ble_eq_true rfl | simp [ol_rfc, Value.category]) dX11_clear_6 (ol_xv ?_)
  refine ol_iload_n C dX11_clear_9 rfl rfl ?_
  exact ol_iret C hret hlk rfl (by decide) (by decide) dX11_clear_10 ⟨rfl, rfl, rfl, rfl⟩

set_option maxRecDepth 100000 in
set_option maxHeartbeats 4000000 in
theorem mm_refuse (l : Launch) (D : va_G) (cA : Nat → ClassId) {ro : Nat → Nat} {I : Nat → Nat → Int32} {F : Nat → Nat → Option Nat} {ad : Nat → Nat} (hL : ol_L ro F ad) (a b d : Int32) : ol_M l D cA yX11_refuse cX11_refuse 4 (some FieldType.int) (ol_r 0 0 0) [.ref (ad 10), .int a, .int b, .int d] ro I F (ol_ei (-1000010 - d) ro (ol_u2 (ol_u2 (ol_u2 (ol_u2 I (ad 10) 24 a) (ad 10) 25 b) (ad 10) 26 d) (ad 10) 23 (I (ad 10) 23 + 1)) F) := by
  refine ol_M.of (by decide +kernel) (Nat.le_of_ble_eq_true rfl) (by simp [Value.category, ol_rfc]) ?_
  intro p e s m args below meth c C hret hlk hin
  have hm : ol_is ro (ad 10) (.inl 9) := hL.is 10 (by decide) (by decide) rfl
  refine ol_aload_n C dX11_refuse_0 rfl rfl (by first | exact ol_isq_r _ | exact ol_isq_q _ | exact ol_isq_n) ?_
  refine ol_iload_n C dX11_refuse_1 rfl rfl ?_
  refine ol_pI (k := 24) C (by assumption) rfl rfl wd_604 (.inl rfl) rfl rfl dX11_refuse_2 ?_
  refine ol_aload_n C dX11_refuse_5 rfl rfl (by first | exact ol_isq_r _ | exact ol_isq_q _ | exact ol_isq_n) ?_
  refine ol_iload_n C dX11_refuse_6 rfl rfl ?_
  refine ol_pI (k := 25) C (by assumption) rfl rfl wd_605 (.inl rfl) rfl rfl dX11_refuse_7 ?_
  refine ol_aload_n C dX11_refuse_10 rfl rfl (by first | exact ol_isq_r _ | exact ol_isq_q _ | exact ol_isq_n) ?_
  refine ol_iload_n C dX11_refuse_11 rfl rfl ?_
  refine ol_pI (k := 26) C (by assumption) rfl rfl wd_606 (.inl rfl) rfl rfl dX11_refuse_12 ?_
  refine ol_aload_n C dX11_refuse_15 rfl rfl (by first | exact ol_isq_r _ | exact ol_isq_q _ | exact ol_isq_n) ?_
  refine ol_dup C dX11_refuse_16 (by first | rfl | exact ol_rfc _) ?_
  refine ol_gI (k := 23) C (by assumption) rfl rfl wd_603 (.inl rfl) dX11_refuse_17 ?_
  rw [show ol_u2 (ol_u2 (ol_u2 I (ad 10) 24 a) (ad 10) 25 b) (ad 10) 26 d (ad 10) 23 = I (ad 10) 23 by rw [ol_u2_k _ _ (by decide), ol_u2_k _ _ (by decide), ol_u2_k _ _ (by decide)]]
  refine ol_iconst (v := 1) C dX11_refuse_20 (by decide) ?_
  refine ol_iadd C dX11_refuse_21 ?_
  refine ol_pI (k := 23) C (by assumption) rfl rfl wd_603 (.inl rfl) rfl rfl dX11_refuse_22 ?_
  refine ol_ldc (v := (-1000010)) C wd_734 dX11_refuse_25 ?_
  refine ol_iload_n C dX11_refuse_27 rfl rfl ?_
  refine ol_isub C dX11_refuse_28 ?_
  exact ol_iret C hret hlk rfl (by decide) (by decide) dX11_refuse_29 ⟨rfl, rfl, rfl, rfl⟩
end
section
theorem mm_isB (l : Launch) (D : va_G) (cA : Nat → ClassId) {ro : Nat → Nat} {I : Nat → Nat → Int32} {F : Nat → Nat → Option Nat} {ad : Nat → Nat} (hL : ol_L ro F ad) {n : Nat} {So : Nat → Nat} {T : Nat → Nat → Int32} {P : Nat → Nat → Option Nat} (hT : ol_MT I ad n So T P) (hV : ol_V n So T P) {q : Option Nat} (hq : ∀ u, q = some u → u < n) : ol_M l D cA yX11_isBridge cX11_isBridge 2 (some .boolean) (ol_r 0 0 0) [.ref (ad 10), .int (ol_e q)] ro I F (ol_ei (ol_p (ol_br So q)) ro I F) := by
  rw [← ol_p_c (ol_brI hT hV hq)]
  exact mm_isBridge l D cA hL hV.1 hq

set_option maxRecDepth 100000 in
set_option maxHeartbeats 4000000 in
theorem mm_tellEnd (l : Launch) (D : va_G) (cA : Nat → ClassId) {ro : Nat → Nat} {I : Nat → Nat → Int32} {F : Nat → Nat → Option Nat} {ad : Nat → Nat} (hL : ol_L ro F ad) {n : Nat} {So : Nat → Nat} {T : Nat → Nat → Int32} {P : Nat → Nat → Option Nat} (hT : ol_MT I ad n So T P) (hV : ol_V n So T P) {b t : Nat} (hb : b < n) (ht : t < n) : ol_M l D cA yX11_tellEnd cX11_tellEnd 3 (some FieldType.int) (ol_r 1 0 0) [.ref (ad 10), .int (nI b), .int (nI t)] ro I F (ol_ei (ol_if (sp_en P b t = none) 1 (ol_if (ol_br So (sp_en P b t)) 3 0)) ro (ol_u2 I (ad 10) 9 (ol_e (sp_en P b t))) F) := by
  refine ol_M.of (by decide +kernel) (Nat.le_of_ble_eq_true rfl) (by simp [Value.category, ol_rfc]) ?_
  intro p e s m args below meth c C hret hlk hin
  have hm : ol_is ro (ad 10) (.inl 9) := hL.is 10 (by decide) (by decide) rfl
  have f_places : F (ad 10) 5 = some (ad 26) := hL.mf 5 26 (by decide)
  have i_places : ol_is ro (ad 26) (.inr (0, 240)) := hL.is 26 (by decide) (by decide) rfl
  have h40 := hV.1
  have e0 : I (ad 26) (6 * b) = ol_e (P 1 b) := (hT.2 b hb).2.2.2.2.2.2 0 (by decide)
  have e1 : I (ad 26) (6 * b + 1) = ol_e (P 2 b) := (hT.2 b hb).2.2.2.2.2.2 1 (by decide)
  have p0 := (hV.2 b hb).2.2 1 (by decide)
  have p1 := (hV.2 b hb).2.2 2 (by decide)
  have eq0 : (ol_e (P 1 b) = nI t) ↔ P 1 b = some t := ol_e_eq (fun u hu => by have := p0 u hu; omega) (by omega)
  have hen : ∀ u, sp_en P b t = some u → u < n := by
    intro u hu
    unfold sp_en ol_if at hu
    split at hu
    · exact p1 u hu
    · exact p0 u hu
  refine ol_aload_n C dX11_tellEnd_0 rfl rfl (by first | exact ol_isq_r _ | exact ol_isq_q _ | exact ol_isq_n) ?_
  refine ol_aload_n C dX11_tellEnd_1 rfl rfl (by first | exact ol_isq_r _ | exact ol_isq_q _ | exact ol_isq_n) ?_
  refine ol_gR (k := 5) C (by assumption) rfl rfl wd_585 (.inl rfl) dX11_tellEnd_2 ?_
  refine ol_rf (by assumption) ?_
  refine ol_bipush (v := 6) C dX11_tellEnd_5 (by decide) ?_
  refine ol_iload_n C dX11_tellEnd_7 rfl rfl ?_
  refine ol_imul C dX11_tellEnd_8 ?_
  refine ol_lI (6 * b) C (by assumption) (ol_m rfl) (by omega) (by decide) dX11_tellEnd_9 ?_
  refine ol_ti e0 ?_
  refine ol_iload_n C dX11_tellEnd_10 rfl rfl ?_
  refine ol_icmp_ne (tgt := 28) C dX11_tellEnd_11 (by decide) (fun c_11 => ?_) (fun c_11 => ?_)
  · have en : sp_en P b t = P 1 b := ol_if_f (fun q => c_11 (eq0.mpr q))
    rw [en] at hen
    refine ol_aload_n C dX11_tellEnd_28 rfl rfl (by first | exact ol_isq_r _ | exact ol_isq_q _ | exact ol_isq_n) ?_
    refine ol_gR (k := 5) C (by assumption) rfl rfl wd_585 (.inl rfl) dX11_tellEnd_29 ?_
    refine ol_rf (by assumption) ?_
    refine ol_bipush (v := 6) C dX11_tellEnd_32 (by decide) ?_
    refine ol_iload_n C dX11_tellEnd_34 rfl rfl ?_
    refine ol_imul C dX11_tellEnd_35 ?_
    refine ol_lI (6 * b) C (by assumption) (ol_m rfl) (by omega) (by decide) dX11_tellEnd_36 ?_
    refine ol_ti e0 ?_
    refine ol_pI (k := 9) C (by assumption) rfl rfl wd_589 (.inl rfl) rfl rfl dX11_tellEnd_37 ?_
    refine ol_aload_n C dX11_tellEnd_40 rfl rfl (by first | exact ol_isq_r _ | exact ol_isq_q _ | exact ol_isq_n) ?_
    refine ol_gI (k := 9) C (by assumption) rfl rfl wd_589 (.inl rfl) dX11_tellEnd_41 ?_
    rw [ol_u2_s]
    refine ol_ldc (v := (-1000009)) C wd_677 dX11_tellEnd_44 ?_
    refine ol_icmp_ne (tgt := 53) C dX11_tellEnd_46 (by decide) (fun c_46 => ?_) (fun c_46 => ?_)
    · have hz : ¬ sp_en P b t = none := by rw [en]; intro q; rw [q] at c_46; exact c_46 rfl
      refine ol_aload_n C dX11_tellEnd_53 rfl rfl (by first | exact ol_isq_r _ | exact ol_isq_q _ | exact ol_isq_n) ?_
      refine ol_aload_n C dX11_tellEnd_54 rfl rfl (by first | exact ol_isq_r _ | exact ol_isq_q _ | exact ol_isq_n) ?_
      refine ol_gI (k := 9) C (by assumption) rfl rfl wd_589 (.inl rfl) dX11_tellEnd_55 ?_
      rw [ol_u2_s]
      refine ol_callV C (mm_isB l D cA hL (ol_MT.sq hL ((ol_sq_rf ad I).up _ (Or.inl ⟨rfl, Or.inl rfl⟩)) hT) hV hen) hm.1 hm.2 rfl wd_711 wd_4 wd_708 wd_710 wq_13 mh_X11_isBridge (by decide) rfl (by first | exact Nat.le_of_ble_eq_true rfl | simp [ol_rfc, Value.category]) dX11_tellEnd_58 (ol_xi ?_)
      refine ol_if_eq (tgt := 68) C dX11_tellEnd_61 (by decide) (fun c_61 => ?_) (fun c_61 => ?_)
      · refine ol_iconst (v := 0) C dX11_tellEnd_68 (by decide) ?_
        exact ol_iret C hret hlk rfl (by decide) (by decide) dX11_tellEnd_69 ⟨by rw [ol_if_f hz, en, ol_if_f (ol_p_0.mp c_61)], rfl, by rw [en], rfl⟩
      · refine ol_iconst (v := 3) C dX11_tellEnd_64 (by decide) ?_
        refine ol_goto (tgt := 69) C dX11_tellEnd_65 (by decide) ?_
        exact ol_iret C hret hlk rfl (by decide) (by decide) dX11_tellEnd_69 ⟨by rw [ol_if_f hz, en, ol_if_t (ol_p_n.mp c_61)], rfl, by rw [en], rfl⟩
    · have hz := ol_e_n (fun u hu => by have := hen u hu; omega) c_46
      refine ol_iconst (v := 1) C dX11_tellEnd_49 (by decide) ?_
      refine ol_goto (tgt := 69) C dX11_tellEnd_50 (by decide) ?_
      exact ol_iret C hret hlk rfl (by decide) (by decide) dX11_tellEnd_69 ⟨by rw [ol_if_t (en.trans hz)], rfl, by rw [en], rfl⟩
  · have en : sp_en P b t = P 2 b := ol_if_t (eq0.mp c_11)
    rw [en] at hen
    refine ol_aload_n C dX11_tellEnd_14 rfl rfl (by first | exact ol_isq_r _ | exact ol_isq_q _ | exact ol_isq_n) ?_
    refine ol_gR (k := 5) C (by assumption) rfl rfl wd_585 (.inl rfl) dX11_tellEnd_15 ?_
    refine ol_rf (by assumption) ?_
    refine ol_bipush (v := 6) C dX11_tellEnd_18 (by decide) ?_
    refine ol_iload_n C dX11_tellEnd_20 rfl rfl ?_
    refine ol_imul C dX11_tellEnd_21 ?_
    refine ol_iconst (v := 1) C dX11_tellEnd_22 (by decide) ?_
    refine ol_iadd C dX11_tellEnd_23 ?_
    refine ol_lI (6 * b + 1) C (by assumption) (ol_ma (u := 1) rfl) (by omega) (by decide) dX11_tellEnd_24 ?_
    refine ol_ti e1 ?_
    refine ol_goto (tgt := 37) C dX11_tellEnd_25 (by decide) ?_
    refine ol_pI (k := 9) C (by assumption) rfl rfl wd_589 (.inl rfl) rfl rfl dX11_tellEnd_37 ?_
    refine ol_aload_n C dX11_tellEnd_40 rfl rfl (by first | exact ol_isq_r _ | exact ol_isq_q _ | exact ol_isq_n) ?_
    refine ol_gI (k := 9) C (by assumption) rfl rfl wd_589 (.inl rfl) dX11_tellEnd_41 ?_
    rw [ol_u2_s]
    refine ol_ldc (v := (-1000009)) C wd_677 dX11_tellEnd_44 ?_
    refine ol_icmp_ne (tgt := 53) C dX11_tellEnd_46 (by decide) (fun c_46 => ?_) (fun c_46 => ?_)
    · have hz : ¬ sp_en P b t = none := by rw [en]; intro q; rw [q] at c_46; exact c_46 rfl
      refine ol_aload_n C dX11_tellEnd_53 rfl rfl (by first | exact ol_isq_r _ | exact ol_isq_q _ | exact ol_isq_n) ?_
      refine ol_aload_n C dX11_tellEnd_54 rfl rfl (by first | exact ol_isq_r _ | exact ol_isq_q _ | exact ol_isq_n) ?_
      refine ol_gI (k := 9) C (by assumption) rfl rfl wd_589 (.inl rfl) dX11_tellEnd_55 ?_
      rw [ol_u2_s]
      refine ol_callV C (mm_isB l D cA hL (ol_MT.sq hL ((ol_sq_rf ad I).up _ (Or.inl ⟨rfl, Or.inl rfl⟩)) hT) hV hen) hm.1 hm.2 rfl wd_711 wd_4 wd_708 wd_710 wq_13 mh_X11_isBridge (by decide) rfl (by first | exact Nat.le_of_ble_eq_true rfl | simp [ol_rfc, Value.category]) dX11_tellEnd_58 (ol_xi ?_)
      refine ol_if_eq (tgt := 68) C dX11_tellEnd_61 (by decide) (fun c_61 => ?_) (fun c_61 => ?_)
      · refine ol_iconst (v := 0) C dX11_tellEnd_68 (by decide) ?_
        exact ol_iret C hret hlk rfl (by decide) (by decide) dX11_tellEnd_69 ⟨by rw [ol_if_f hz, en, ol_if_f (ol_p_0.mp c_61)], rfl, by rw [en], rfl⟩
      · refine ol_iconst (v := 3) C dX11_tellEnd_64 (by decide) ?_
        refine ol_goto (tgt := 69) C dX11_tellEnd_65 (by decide) ?_
        exact ol_iret C hret hlk rfl (by decide) (by decide) dX11_tellEnd_69 ⟨by rw [ol_if_f hz, en, ol_if_t (ol_p_n.mp c_61)], rfl, by rw [en], rfl⟩
    · have hz := ol_e_n (fun u hu => by have := hen u hu; omega) c_46
      refine ol_iconst (v := 1) C dX11_tellEnd_49 (by decide) ?_
      refine ol_goto (tgt := 69) C dX11_tellEnd_50 (by decide) ?_
      exact ol_iret C hret hlk rfl (by decide) (by decide) dX11_tellEnd_69 ⟨by rw [ol_if_t (en.trans hz)], rfl, by rw [en], rfl⟩

set_option maxRecDepth 100000 in
set_option maxHeartbeats 4000000 in
theorem mm_found_old (l : Launch) (D : va_G) (cA : Nat → ClassId) {ro : Nat → Nat} {I : Nat → Nat → Int32} {F : Nat → Nat → Option Nat} {ad : Nat → Nat} (hL : ol_L ro F ad) {g t k : Nat} (hg : g < 2) (ht : t < 40) (h : ¬ I (ad 33) (40 * g + t) < 0) : ol_M l D cA yX11_found cX11_found 3 (some FieldType.int) (ol_r 0 0 0) [.ref (ad 10), .int (nI g), .int (nI t)] ro I F (ol_ei (I (ad 33) (40 * g + t)) ro I F) := by
  refine ol_M.of (by decide +kernel) (Nat.le_of_ble_eq_true rfl) (by simp [Value.category, ol_rfc]) ?_
  intro p e s m args below meth c C hret hlk hin
  have hm : ol_is ro (ad 10) (.inl 9) := hL.is 10 (by decide) (by decide) rfl
  have f_nodes : F (ad 10) 13 = some (ad 31) := hL.mf 13 31 (by decide)
  have i_nodes : ol_is ro (ad 31) (.inr (0, 2)) := hL.is 31 (by decide) (by decide) rfl
  have f_thingOf : F (ad 10) 14 = some (ad 32) := hL.mf 14 32 (by decide)
  have i_thingOf : ol_is ro (ad 32) (.inr (0, 80)) := hL.is 32 (by decide) (by decide) rfl
  have f_nodeOf : F (ad 10) 15 = some (ad 33) := hL.mf 15 33 (by decide)
  have i_nodeOf : ol_is ro (ad 33) (.inr (0, 80)) := hL.is 33 (by decide) (by decide) rfl
  refine ol_aload_n C dX11_found_0 rfl rfl (by first | exact ol_isq_r _ | exact ol_isq_q _ | exact ol_isq_n) ?_
  refine ol_gR (k := 15) C (by assumption) rfl rfl wd_595 (.inl rfl) dX11_found_1 ?_
  refine ol_rf (by assumption) ?_
  refine ol_bipush (v := 40) C dX11_found_4 (by decide) ?_
  refine ol_iload_n C dX11_found_6 rfl rfl ?_
  refine ol_imul C dX11_found_7 ?_
  refine ol_iload_n C dX11_found_8 rfl rfl ?_
  refine ol_iadd C dX11_found_9 ?_
  refine ol_lI (40 * g + t) C (by assumption) (ol_ma rfl) (by omega) (by decide) dX11_found_10 ?_
  refine ol_if_ge (tgt := 58) C dX11_found_11 (by decide) (fun c_11 => ?_) (fun c_11 => absurd (ol_nge c_11) h)
  refine ol_aload_n C dX11_found_58 rfl rfl (by first | exact ol_isq_r _ | exact ol_isq_q _ | exact ol_isq_n) ?_
  refine ol_gR (k := 15) C (by assumption) rfl rfl wd_595 (.inl rfl) dX11_found_59 ?_
  refine ol_rf (by assumption) ?_
  refine ol_bipush (v := 40) C dX11_found_62 (by decide) ?_
  refine ol_iload_n C dX11_found_64 rfl rfl ?_
  refine ol_imul C dX11_found_65 ?_
  refine ol_iload_n C dX11_found_66 rfl rfl ?_
  refine ol_iadd C dX11_found_67 ?_
  refine ol_lI (40 * g + t) C (by assumption) (ol_ma rfl) (by omega) (by decide) dX11_found_68 ?_
  exact ol_iret C hret hlk rfl (by decide) (by decide) dX11_found_69 ⟨rfl, rfl, rfl, rfl⟩

set_option maxRecDepth 100000 in
set_option maxHeartbeats 4000000 in
theorem mm_found_new (l : Launch) (D : va_G) (cA : Nat → ClassId) {ro : Nat → Nat} {I : Nat → Nat → Int32} {F : Nat → Nat → Option Nat} {ad : Nat → Nat} (hL : ol_L ro F ad) {g t k : Nat} (hg : g < 2) (ht : t < 40) (h : I (ad 33) (40 * g + t) < 0) (hk : I (ad 31) g = nI k) (hk40 : k < 40) : ol_M l D cA yX11_found cX11_found 3 (some FieldType.int) (ol_r 0 0 0) [.ref (ad 10), .int (nI g), .int (nI t)] ro I F (ol_ei (nI k) ro (ol_u2 (ol_u2 (ol_u2 I (ad 33) (40 * g + t) (nI k)) (ad 32) (40 * g + k) (nI t)) (ad 31) g (nI (k + 1))) F) := by
  refine ol_M.of (by decide +kernel) (Nat.le_of_ble_eq_true rfl) (by simp [Value.category, ol_rfc]) ?_
  intro p e s m args below meth c C hret hlk hin
  have hm : ol_is ro (ad 10) (.inl 9) := hL.is 10 (by decide) (by decide) rfl
  have f_nodes : F (ad 10) 13 = some (ad 31) := hL.mf 13 31 (by decide)
  have i_nodes : ol_is ro (ad 31) (.inr (0, 2)) := hL.is 31 (by decide) (by decide) rfl
  have f_thingOf : F (ad 10) 14 = some (ad 32) := hL.mf 14 32 (by decide)
  have i_thingOf : ol_is ro (ad 32) (.inr (0, 80)) := hL.is 32 (by decide) (by decide) rfl
  have f_nodeOf : F (ad 10) 15 = some (ad 33) := hL.mf 15 33 (by decide)
  have i_nodeOf : ol_is ro (ad 33) (.inr (0, 80)) := hL.is 33 (by decide) (by decide) rfl
  have n31_33 : ad 31 ≠ ad 33 := hL.ne (by decide) (by decide) (by decide)
  have n31_32 : ad 31 ≠ ad 32 := hL.ne (by decide) (by decide) (by decide)
  have n33_32 : ad 33 ≠ ad 32 := hL.ne (by decide) (by decide) (by decide)
  have n33_31 : ad 33 ≠ ad 31 := hL.ne (by decide) (by decide) (by decide)
  have n32_33 : ad 32 ≠ ad 33 := hL.ne (by decide) (by decide) (by decide)
  refine ol_aload_n C dX11_found_0 rfl rfl (by first | exact ol_isq_r _ | exact ol_isq_q _ | exact ol_isq_n) ?_
  refine ol_gR (k := 15) C (by assumption) rfl rfl wd_595 (.inl rfl) dX11_found_1 ?_
  refine ol_rf (by assumption) ?_
  refine ol_bipush (v := 40) C dX11_found_4 (by decide) ?_
  refine ol_iload_n C dX11_found_6 rfl rfl ?_
  refine ol_imul C dX11_found_7 ?_
  refine ol_iload_n C dX11_found_8 rfl rfl ?_
  refine ol_iadd C dX11_found_9 ?_
  refine ol_lI (40 * g + t) C (by assumption) (ol_ma rfl) (by omega) (by decide) dX11_found_10 ?_
  refine ol_if_ge (tgt := 58) C dX11_found_11 (by decide) (fun c_11 => absurd h (ol_nlt c_11)) (fun c_11 => ?_)
  refine ol_aload_n C dX11_found_14 rfl rfl (by first | exact ol_isq_r _ | exact ol_isq_q _ | exact ol_isq_n) ?_
  refine ol_gR (k := 15) C (by assumption) rfl rfl wd_595 (.inl rfl) dX11_found_15 ?_
  refine ol_rf (by assumption) ?_
  refine ol_bipush (v := 40) C dX11_found_18 (by decide) ?_
  refine ol_iload_n C dX11_found_20 rfl rfl ?_
  refine ol_imul C dX11_found_21 ?_
  refine ol_iload_n C dX11_found_22 rfl rfl ?_
  refine ol_iadd C dX11_found_23 ?_
  refine ol_aload_n C dX11_found_24 rfl rfl (by first | exact ol_isq_r _ | exact ol_isq_q _ | exact ol_isq_n) ?_
  refine ol_gR (k := 13) C (by assumption) rfl rfl wd_593 (.inl rfl) dX11_found_25 ?_
  refine ol_rf (by assumption) ?_
  refine ol_iload_n C dX11_found_28 rfl rfl ?_
  refine ol_lI g C (by assumption) rfl hg (by decide) dX11_found_29 ?_
  refine ol_ti hk ?_
  refine ol_sI (40 * g + t) C (by assumption) (ol_ma rfl) (by omega) (by decide) dX11_found_30 ?_
  refine ol_aload_n C dX11_found_31 rfl rfl (by first | exact ol_isq_r _ | exact ol_isq_q _ | exact ol_isq_n) ?_
  refine ol_gR (k := 14) C (by assumption) rfl rfl wd_594 (.inl rfl) dX11_found_32 ?_
  refine ol_rf (by assumption) ?_
  refine ol_bipush (v := 40) C dX11_found_35 (by decide) ?_
  refine ol_iload_n C dX11_found_37 rfl rfl ?_
  refine ol_imul C dX11_found_38 ?_
  refine ol_aload_n C dX11_found_39 rfl rfl (by first | exact ol_isq_r _ | exact ol_isq_q _ | exact ol_isq_n) ?_
  refine ol_gR (k := 13) C (by assumption) rfl rfl wd_593 (.inl rfl) dX11_found_40 ?_
  refine ol_rf (by assumption) ?_
  refine ol_iload_n C dX11_found_43 rfl rfl ?_
  refine ol_lI g C (by assumption) rfl hg (by decide) dX11_found_44 ?_
  rw [ol_u2_a I _ n31_33]
  refine ol_ti hk ?_
  refine ol_iadd C dX11_found_45 ?_
  refine ol_iload_n C dX11_found_46 rfl rfl ?_
  refine ol_sI (40 * g + k) C (by assumption) (ol_ma rfl) (by omega) (by decide) dX11_found_47 ?_
  refine ol_aload_n C dX11_found_48 rfl rfl (by first | exact ol_isq_r _ | exact ol_isq_q _ | exact ol_isq_n) ?_
  refine ol_gR (k := 13) C (by assumption) rfl rfl wd_593 (.inl rfl) dX11_found_49 ?_
  refine ol_rf (by assumption) ?_
  refine ol_iload_n C dX11_found_52 rfl rfl ?_
  refine ol_dup2 C dX11_found_53 (by first | rfl | exact ol_rfc _) (by first | rfl | exact ol_rfc _) ?_
  refine ol_lI g C (by assumption) rfl hg (by decide) dX11_found_54 ?_
  rw [ol_u2_a _ _ n31_32, ol_u2_a I _ n31_33]
  refine ol_ti hk ?_
  refine ol_iconst (v := 1) C dX11_found_55 (by decide) ?_
  refine ol_iadd C dX11_found_56 ?_
  refine ol_ti (nI_1 k) ?_
  refine ol_sI g C (by assumption) rfl hg (by decide) dX11_found_57 ?_
  refine ol_aload_n C dX11_found_58 rfl rfl (by first | exact ol_isq_r _ | exact ol_isq_q _ | exact ol_isq_n) ?_
  refine ol_gR (k := 15) C (by assumption) rfl rfl wd_595 (.inl rfl) dX11_found_59 ?_
  refine ol_rf (by assumption) ?_
  refine ol_bipush (v := 40) C dX11_found_62 (by decide) ?_
  refine ol_iload_n C dX11_found_64 rfl rfl ?_
  refine ol_imul C dX11_found_65 ?_
  refine ol_iload_n C dX11_found_66 rfl rfl ?_
  refine ol_iadd C dX11_found_67 ?_
  refine ol_lI (40 * g + t) C (by assumption) (ol_ma rfl) (by omega) (by decide) dX11_found_68 ?_
  rw [ol_u2_a _ _ n33_31, ol_u2_a _ _ n33_32, ol_u2_s]
  exact ol_iret C hret hlk rfl (by decide) (by decide) dX11_found_69 ⟨rfl, rfl, rfl, rfl⟩
end
section
set_option maxRecDepth 100000 in
set_option maxHeartbeats 4000000 in
theorem lp_thing {p : Program} {l : Launch} {e : Env} {R : Room} {s : State} {m : MethodId} {args : Array Value} {below : List Frame} {meth : Method} {c : Code} {D : va_G} {cA : Nat → ClassId} {A : Nat → Prop} {Q : State → Prop} {ro : Nat → Nat} {F : Nat → Nat → Option Nat} {cells slots : Nat} (C : ol_Cx p s m args c cX11_thing 6 yX11_thing.cls D cA A) {ad : Nat → Nat} (hL : ol_L ro F ad) {I0 : Nat → Nat → Int32} {t : Nat} (ht : t < 40) {a1 a2 a3 : Int32} (ex : ∀ I : Nat → Nat → Int32, (∀ a, a ≠ ad 26 → I a = I0 a) → (∀ j, j < 6 → I (ad 26) (6 * t + j) = -1000009) → (∀ j, j < 6 * t ∨ 6 * t + 6 ≤ j → I (ad 26) j = I0 (ad 26) j) → ol_W p l e R s m args below meth c D cA A Q 6 ro I F cells slots 95 [some (.ref (ad 10)), some (.int a1), some (.int a2), some (.int a3), some (.int (nI t)), some (.int (nI 6))] []) : ∀ (d k : Nat) (I : Nat → Nat → Int32), k + d = 6 → (∀ a, a ≠ ad 26 → I a = I0 a) → (∀ j, j < k → I (ad 26) (6 * t + j) = -1000009) → (∀ j, j < 6 * t ∨ 6 * t + 6 ≤ j → I (ad 26) j = I0 (ad 26) j) → ol_W p l e R s m args below meth c D cA A Q 6 ro I F cells slots 67 [some (.ref (ad 10)), some (.int a1), some (.int a2), some (.int a3), some (.int (nI t)), some (.int (nI k))] [] := by
  have hm : ol_is ro (ad 10) (.inl 9) := hL.is 10 (by decide) (by decide) rfl
  have f_places : F (ad 10) 5 = some (ad 26) := hL.mf 5 26 (by decide)
  have i_places : ol_is ro (ad 26) (.inr (0, 240)) := hL.is 26 (by decide) (by decide) rfl
  intro d
  induction d with
  | zero =>
    intro k I hk h1 h2 h3
    have hk6 : k = 6 := by omega
    subst hk6
    refine ol_iload C dX11_thing_67 rfl ?_
    refine ol_bipush (v := 6) C dX11_thing_69 (by decide) ?_
    refine ol_icmp_ge (tgt := 95) C dX11_thing_71 (by decide) (fun c_71 => ?_) (fun c_71 => absurd (show (6 : Int32) ≤ nI 6 by decide) c_71)
    exact ex I h1 h2 h3
  | succ d ih =>
    intro k I hk h1 h2 h3
    have hk6 : k < 6 := by omega
    refine ol_iload C dX11_thing_67 rfl ?_
    refine ol_bipush (v := 6) C dX11_thing_69 (by decide) ?_
    refine ol_icmp_ge (tgt := 95) C dX11_thing_71 (by decide) (fun c_71 => absurd c_71 (nI_ge (b := 6) hk6 (by decide))) (fun c_71 => ?_)
    refine ol_aload_n C dX11_thing_74 rfl rfl (by first | exact ol_isq_r _ | exact ol_isq_q _ | exact ol_isq_n) ?_
    refine ol_gR (k := 5) C (by assumption) rfl rfl wd_585 (.inl rfl) dX11_thing_75 ?_
    refine ol_rf (by assumption) ?_
    refine ol_bipush (v := 6) C dX11_thing_78 (by decide) ?_
    refine ol_iload C dX11_thing_80 rfl ?_
    refine ol_imul C dX11_thing_82 ?_
    refine ol_iload C dX11_thing_83 rfl ?_
    refine ol_iadd C dX11_thing_85 ?_
    refine ol_ldc (v := (-1000009)) C wd_677 dX11_thing_86 ?_
    refine ol_sI (6 * t + k) C (by assumption) (ol_ma rfl) (by omega) (by decide) dX11_thing_88 ?_
    refine ol_iincN C dX11_thing_89 rfl (by decide) ?_
    refine ol_goto (tgt := 67) C dX11_thing_92 (by decide) ?_
    refine ih (k + 1) _ (by omega) (fun a ha => (ol_u2_a I _ ha).trans (h1 a ha)) (fun j hj => ?_) (fun j hj => ?_)
    · by_cases e : j = k
      · subst e
        exact ol_u2_s _ _ _ _
      · rw [ol_u2_k I _ (by omega)]
        exact h2 j (by omega)
    · rw [ol_u2_k I _ (by omega)]
      exact h3 j hj

set_option maxRecDepth 100000 in
set_option maxHeartbeats 4000000 in
theorem mm_thing (l : Launch) (D : va_G) (cA : Nat → ClassId) {ro : Nat → Nat} {I : Nat → Nat → Int32} {F : Nat → Nat → Option Nat} {ad : Nat → Nat} (hL : ol_L ro F ad) {n : Nat} (hn : I (ad 10) 0 = nI n) (h40 : n ≤ 40) (a1 a2 a3 : Int32) : ol_M l D cA yX11_thing cX11_thing 6 (some FieldType.int) (ol_r 1 0 0) [.ref (ad 10), .int a1, .int a2, .int a3] ro I F (fun v ro' I' F' => ro' = ro ∧ F' = F ∧ ((¬ ol_k 7 a1 ∧ v = some (.int (-1000002)) ∧ I' = I) ∨ (ol_k 7 a1 ∧ n = 40 ∧ v = some (.int (-1000004)) ∧ I' = I) ∨ (ol_k 7 a1 ∧ n < 40 ∧ v = some (.int (nI n)) ∧ ol_mth I I' ad n a1 a2 a3))) := by
  refine ol_M.of (by decide +kernel) (Nat.le_of_ble_eq_true rfl) (by simp [Value.category, ol_rfc]) ?_
  intro p e s m args below meth c C hret hlk hin
  have hm : ol_is ro (ad 10) (.inl 9) := hL.is 10 (by decide) (by decide) rfl
  have f_sorts : F (ad 10) 1 = some (ad 22) := hL.mf 1 22 (by decide)
  have i_sorts : ol_is ro (ad 22) (.inr (0, 40)) := hL.is 22 (by decide) (by decide) rfl
  have f_keys : F (ad 10) 2 = some (ad 23) := hL.mf 2 23 (by decide)
  have i_keys : ol_is ro (ad 23) (.inr (0, 40)) := hL.is 23 (by decide) (by decide) rfl
  have f_vs : F (ad 10) 3 = some (ad 24) := hL.mf 3 24 (by decide)
  have i_vs : ol_is ro (ad 24) (.inr (0, 40)) := hL.is 24 (by decide) (by decide) rfl
  have f_nexts : F (ad 10) 4 = some (ad 25) := hL.mf 4 25 (by decide)
  have i_nexts : ol_is ro (ad 25) (.inr (0, 40)) := hL.is 25 (by decide) (by decide) rfl
  have f_places : F (ad 10) 5 = some (ad 26) := hL.mf 5 26 (by decide)
  have i_places : ol_is ro (ad 26) (.inr (0, 240)) := hL.is 26 (by decide) (by decide) rfl
  have f_isHeld : F (ad 10) 6 = some (ad 27) := hL.mf 6 27 (by decide)
  have i_isHeld : ol_is ro (ad 27) (.inr (1, 40)) := hL.is 27 (by decide) (by decide) rfl
  have f_askedOf : F (ad 10) 7 = some (ad 28) := hL.mf 7 28 (by decide)
  have i_askedOf : ol_is ro (ad 28) (.inr (0, 40)) := hL.is 28 (by decide) (by decide) rfl
  have n10_22 : ad 10 ≠ ad 22 := hL.ne (by decide) (by decide) (by decide)
  have n10_23 : ad 10 ≠ ad 23 := hL.ne (by decide) (by decide) (by decide)
  have n10_24 : ad 10 ≠ ad 24 := hL.ne (by decide) (by decide) (by decide)
  have n10_25 : ad 10 ≠ ad 25 := hL.ne (by decide) (by decide) (by decide)
  have n10_26 : ad 10 ≠ ad 26 := hL.ne (by decide) (by decide) (by decide)
  have n10_27 : ad 10 ≠ ad 27 := hL.ne (by decide) (by decide) (by decide)
  have n10_28 : ad 10 ≠ ad 28 := hL.ne (by decide) (by decide) (by decide)
  refine ol_iload_n C dX11_thing_0 rfl rfl ?_
  refine ol_iconst (v := 0) C dX11_thing_1 (by decide) ?_
  refine ol_bipush (v := 6) C dX11_thing_2 (by decide) ?_
  refine ol_callS C (mm_in l D cA a1 0 6) wd_674 wd_4 wd_672 wd_673 mh_X11_in (by decide) rfl (by first | exact Nat.le_of_ble_eq_true rfl | simp [ol_rfc, Value.category]) dX11_thing_4 (ol_xi ?_)
  refine ol_if_ne (tgt := 13) C dX11_thing_7 (by decide) (fun c_7 => ?_) (fun c_7 => ?_)
  · have hK := (ol_k_6).mp (ol_p_n.mp c_7)
    refine ol_aload_n C dX11_thing_13 rfl rfl (by first | exact ol_isq_r _ | exact ol_isq_q _ | exact ol_isq_n) ?_
    refine ol_gI (k := 0) C (by assumption) rfl rfl wd_580 (.inl rfl) dX11_thing_14 ?_
    refine ol_bipush (v := 40) C dX11_thing_17 (by decide) ?_
    refine ol_icmp_ne (tgt := 25) C dX11_thing_19 (by decide) (fun c_19 => ?_) (fun c_19 => ?_)
    · have hq : n < 40 := Nat.lt_of_le_of_ne h40 (fun q => c_19 (by rw [hn, q]; rfl))
      refine ol_aload_n C dX11_thing_25 rfl rfl (by first | exact ol_isq_r _ | exact ol_isq_q _ | exact ol_isq_n) ?_
      refine ol_gI (k := 0) C (by assumption) rfl rfl wd_580 (.inl rfl) dX11_thing_26 ?_
      refine ol_ti hn ?_
      refine ol_istore C dX11_thing_29 (by decide) ?_
      refine ol_aload_n C dX11_thing_31 rfl rfl (by first | exact ol_isq_r _ | exact ol_isq_q _ | exact ol_isq_n) ?_
      refine ol_gR (k := 1) C (by assumption) rfl rfl wd_581 (.inl rfl) dX11_thing_32 ?_
      refine ol_rf (by assumption) ?_
      refine ol_iload C dX11_thing_35 rfl ?_
      refine ol_iload_n C dX11_thing_37 rfl rfl ?_
      refine ol_sI n C (by assumption) rfl hq (by decide) dX11_thing_38 ?_
      refine ol_aload_n C dX11_thing_39 rfl rfl (by first | exact ol_isq_r _ | exact ol_isq_q _ | exact ol_isq_n) ?_
      refine ol_gR (k := 2) C (by assumption) rfl rfl wd_582 (.inl rfl) dX11_thing_40 ?_
      refine ol_rf (by assumption) ?_
      refine ol_iload C dX11_thing_43 rfl ?_
      refine ol_iload_n C dX11_thing_45 rfl rfl ?_
      refine ol_sI n C (by assumption) rfl hq (by decide) dX11_thing_46 ?_
      refine ol_aload_n C dX11_thing_47 rfl rfl (by first | exact ol_isq_r _ | exact ol_isq_q _ | exact ol_isq_n) ?_
      refine ol_gR (k := 3) C (by assumption) rfl rfl wd_583 (.inl rfl) dX11_thing_48 ?_
      refine ol_rf (by assumption) ?_
      refine ol_iload C dX11_thing_51 rfl ?_
      refine ol_iload_n C dX11_thing_53 rfl rfl ?_
      refine ol_sI n C (by assumption) rfl hq (by decide) dX11_thing_54 ?_
      refine ol_aload_n C dX11_thing_55 rfl rfl (by first | exact ol_isq_r _ | exact ol_isq_q _ | exact ol_isq_n) ?_
      refine ol_gR (k := 4) C (by assumption) rfl rfl wd_584 (.inl rfl) dX11_thing_56 ?_
      refine ol_rf (by assumption) ?_
      refine ol_iload C dX11_thing_59 rfl ?_
      refine ol_ldc (v := (-1000009)) C wd_677 dX11_thing_61 ?_
      refine ol_sI n C (by assumption) rfl hq (by decide) dX11_thing_63 ?_
      refine ol_iconst (v := 0) C dX11_thing_64 (by decide) ?_
      refine ol_istore C dX11_thing_65 (by decide) ?_
      refine lp_thing C hL hq (fun I1 g1 g2 g3 => ?_) 6 0 _ (by omega) (fun _ _ => rfl) (fun j hj => absurd hj (by omega)) (fun _ _ => rfl)
      refine ol_aload_n C dX11_thing_95 rfl rfl (by first | exact ol_isq_r _ | exact ol_isq_q _ | exact ol_isq_n) ?_
      refine ol_gR (k := 6) C (by assumption) rfl rfl wd_586 (.inl rfl) dX11_thing_96 ?_
      refine ol_rf (by assumption) ?_
      refine ol_iload C dX11_thing_99 rfl ?_
      refine ol_iconst (v := 0) C dX11_thing_101 (by decide) ?_
      refine ol_sZ n C (by assumption) rfl hq (by decide) rfl dX11_thing_102 ?_
      refine ol_aload_n C dX11_thing_103 rfl rfl (by first | exact ol_isq_r _ | exact ol_isq_q _ | exact ol_isq_n) ?_
      refine ol_gR (k := 7) C (by assumption) rfl rfl wd_587 (.inl rfl) dX11_thing_104 ?_
      refine ol_rf (by assumption) ?_
      refine ol_iload C dX11_thing_107 rfl ?_
      refine ol_iconst (v := 0) C dX11_thing_109 (by decide) ?_
      refine ol_sI n C (by assumption) rfl hq (by decide) dX11_thing_110 ?_
      refine ol_aload_n C dX11_thing_111 rfl rfl (by first | exact ol_isq_r _ | exact ol_isq_q _ | exact ol_isq_n) ?_
      refine ol_dup C dX11_thing_112 (by first | rfl | exact ol_rfc _) ?_
      refine ol_gI (k := 0) C (by assumption) rfl rfl wd_580 (.inl rfl) dX11_thing_113 ?_
      rw [ol_u2_a _ _ n10_28, ol_u2_a _ _ n10_27, g1 _ n10_26, ol_u2_a _ _ n10_25, ol_u2_a _ _ n10_24, ol_u2_a _ _ n10_23, ol_u2_a _ _ n10_22]
      refine ol_ti hn ?_
      refine ol_iconst (v := 1) C dX11_thing_116 (by decide) ?_
      refine ol_iadd C dX11_thing_117 ?_
      refine ol_ti (nI_1 n) ?_
      refine ol_pI (k := 0) C (by assumption) rfl rfl wd_580 (.inl rfl) rfl rfl dX11_thing_118 ?_
      refine ol_iload C dX11_thing_121 rfl ?_
      exact ol_iret C hret hlk rfl (by decide) (by decide) dX11_thing_123 ⟨rfl, rfl, Or.inr (Or.inr ⟨hK, hq, rfl, ol_mth_of hL g1 g2 g3⟩)⟩
    · have hq : n = 40 := (nI_eq (by omega) (by decide)).mp (hn.symm.trans c_19)
      refine ol_ldc (v := (-1000004)) C wd_676 dX11_thing_22 ?_
      exact ol_iret C hret hlk rfl (by decide) (by decide) dX11_thing_24 ⟨rfl, rfl, Or.inr (Or.inl ⟨hK, hq, rfl, rfl⟩)⟩
  · have hK : ¬ ol_k 7 a1 := fun q => ol_p_0.mp c_7 (ol_k_6.mpr q)
    refine ol_ldc (v := (-1000002)) C wd_675 dX11_thing_10 ?_
    exact ol_iret C hret hlk rfl (by decide) (by decide) dX11_thing_12 ⟨rfl, rfl, Or.inl ⟨hK, rfl, rfl⟩⟩
end
section
set_option maxRecDepth 100000 in
set_option maxHeartbeats 4000000 in
theorem lp_links {p : Program} {l : Launch} {e : Env} {R : Room} {s : State} {m : MethodId} {args : Array Value} {below : List Frame} {meth : Method} {c : Code} {D : va_G} {cA : Nat → ClassId} {A : Nat → Prop} {Q : State → Prop} {ro : Nat → Nat} {F : Nat → Nat → Option Nat} {cells slots : Nat} (C : ol_Cx p s m args c cX11_tellLinks 5 yX11_tellLinks.cls D cA A) {ad : Nat → Nat} (hL : ol_L ro F ad) {I0 : Nat → Nat → Int32} {n : Nat} {So : Nat → Nat} {T : Nat → Nat → Int32} {P : Nat → Nat → Option Nat} (hT : ol_MT I0 ad n So T P) (hV : ol_V n So T P) {t : Nat} (ht : t < n) (hR1 : ol_rm R (ol_r 0 0 0) 2 cells slots) (ex : ∀ (I : Nat → Nat → Int32) (why : Int32), ol_sq ad I0 I → (∀ i, i < 6 → I (ad 30) i = ol_e (P (1 + i) t)) → why = ol_if (So t = 4 ∧ ∃ i, i < 6 ∧ ol_br So (P (1 + i) t)) 3 0 → ol_W p l e R s m args below meth c D cA A Q 5 ro I F cells slots 134 [some (.ref (ad 10)), some (.int (nI t)), some (.int (nI (So t))), some (.int why), some (.int (nI 6))] []) : ∀ (d k : Nat) (I : Nat → Nat → Int32) (why : Int32), k + d = 6 → ol_sq ad I0 I → (∀ i, i < k → I (ad 30) i = ol_e (P (1 + i) t)) → why = ol_if (So t = 4 ∧ ∃ i, i < k ∧ ol_br So (P (1 + i) t)) 3 0 → ol_W p l e R s m args below meth c D cA A Q 5 ro I F cells slots 77 [some (.ref (ad 10)), some (.int (nI t)), some (.int (nI (So t))), some (.int why), some (.int (nI k))] [] := by
  have hm : ol_is ro (ad 10) (.inl 9) := hL.is 10 (by decide) (by decide) rfl
  have f_sorts : F (ad 10) 1 = some (ad 22) := hL.mf 1 22 (by decide)
  have i_sorts : ol_is ro (ad 22) (.inr (0, 40)) := hL.is 22 (by decide) (by decide) rfl
  have f_vs : F (ad 10) 3 = some (ad 24) := hL.mf 3 24 (by decide)
  have i_vs : ol_is ro (ad 24) (.inr (0, 40)) := hL.is 24 (by decide) (by decide) rfl
  have f_nexts : F (ad 10) 4 = some (ad 25) := hL.mf 4 25 (by decide)
  have i_nexts : ol_is ro (ad 25) (.inr (0, 40)) := hL.is 25 (by decide) (by decide) rfl
  have f_places : F (ad 10) 5 = some (ad 26) := hL.mf 5 26 (by decide)
  have i_places : ol_is ro (ad 26) (.inr (0, 240)) := hL.is 26 (by decide) (by decide) rfl
  have f_links : F (ad 10) 10 = some (ad 30) := hL.mf 10 30 (by decide)
  have i_links : ol_is ro (ad 30) (.inr (0, 6)) := hL.is 30 (by decide) (by decide) rfl
  have h40 := hV.1
  have s6 := (hV.2 t ht).1
  intro d
  induction d with
  | zero =>
    intro k I why hk h1 h2 h3
    have hk6 : k = 6 := by omega
    subst hk6
    refine ol_iload C dX11_tellLinks_77 rfl ?_
    refine ol_bipush (v := 6) C dX11_tellLinks_79 (by decide) ?_
    refine ol_icmp_ge (tgt := 134) C dX11_tellLinks_81 (by decide) (fun c_81 => ?_) (fun c_81 => absurd (show (6 : Int32) ≤ nI 6 by decide) c_81)
    exact ex I why h1 h2 h3
  | succ d ih =>
    intro k I why hk h1 h2 h3
    have hk6 : k < 6 := by omega
    have hv : I (ad 26) (6 * t + k) = ol_e (P (1 + k) t) := ((ol_MT.sq hL h1 hT).2 t ht).2.2.2.2.2.2 k hk6
    have hln : ∀ i, i < k + 1 → ol_u2 I (ad 30) k (ol_e (P (1 + k) t)) (ad 30) i = ol_e (P (1 + i) t) := by
      intro i hi
      by_cases e : i = k
      · subst e
        exact ol_u2_s _ _ _ _
      · rw [ol_u2_k I _ e]
        exact h2 i (by omega)
    have hq := (hV.2 t ht).2.2 (1 + k) (by omega)
    refine ol_iload C dX11_tellLinks_77 rfl ?_
    refine ol_bipush (v := 6) C dX11_tellLinks_79 (by decide) ?_
    refine ol_icmp_ge (tgt := 134) C dX11_tellLinks_81 (by decide) (fun c_81 => absurd c_81 (nI_ge (b := 6) hk6 (by decide))) (fun c_81 => ?_)
    refine ol_aload_n C dX11_tellLinks_84 rfl rfl (by first | exact ol_isq_r _ | exact ol_isq_q _ | exact ol_isq_n) ?_
    refine ol_gR (k := 10) C (by assumption) rfl rfl wd_590 (.inl rfl) dX11_tellLinks_85 ?_
    refine ol_rf (by assumption) ?_
    refine ol_iload C dX11_tellLinks_88 rfl ?_
    refine ol_aload_n C dX11_tellLinks_90 rfl rfl (by first | exact ol_isq_r _ | exact ol_isq_q _ | exact ol_isq_n) ?_
    refine ol_gR (k := 5) C (by assumption) rfl rfl wd_585 (.inl rfl) dX11_tellLinks_91 ?_
    refine ol_rf (by assumption) ?_
    refine ol_bipush (v := 6) C dX11_tellLinks_94 (by decide) ?_
    refine ol_iload_n C dX11_tellLinks_96 rfl rfl ?_
    refine ol_imul C dX11_tellLinks_97 ?_
    refine ol_iload C dX11_tellLinks_98 rfl ?_
    refine ol_iadd C dX11_tellLinks_100 ?_
    refine ol_lI (6 * t + k) C (by assumption) (ol_ma rfl) (by omega) (by decide) dX11_tellLinks_101 ?_
    refine ol_ti hv ?_
    refine ol_sI k C (by assumption) rfl hk6 (by decide) dX11_tellLinks_102 ?_
    refine ol_iload_n C dX11_tellLinks_103 rfl rfl ?_
    refine ol_iconst (v := 4) C dX11_tellLinks_104 (by decide) ?_
    refine ol_icmp_ne (tgt := 126) C dX11_tellLinks_105 (by decide) (fun c_105 => ?_) (fun c_105 => ?_)
    · refine ol_iload_n C dX11_tellLinks_126 rfl rfl ?_
      refine ol_istore_n C dX11_tellLinks_127 rfl (by decide) ?_
      refine ol_iincN C dX11_tellLinks_128 rfl (by decide) ?_
      refine ol_goto (tgt := 77) C dX11_tellLinks_131 (by decide) ?_
      have hwy : why = ol_if (So t = 4 ∧ ∃ i, i < (k + 1) ∧ ol_br So (P (1 + i) t)) 3 0 := by
        have c4 : ¬ So t = 4 := fun q => c_105 (by rw [q]; rfl)
        rw [h3, ol_if_f (fun q => c4 q.1), ol_if_f (fun q => c4 q.1)]
      exact ih (k + 1) _ _ (by omega) (h1.up _ (Or.inr (Or.inr rfl))) hln hwy
    · refine ol_aload_n C dX11_tellLinks_108 rfl rfl (by first | exact ol_isq_r _ | exact ol_isq_q _ | exact ol_isq_n) ?_
      refine ol_aload_n C dX11_tellLinks_109 rfl rfl (by first | exact ol_isq_r _ | exact ol_isq_q _ | exact ol_isq_n) ?_
      refine ol_gR (k := 10) C (by assumption) rfl rfl wd_590 (.inl rfl) dX11_tellLinks_110 ?_
      refine ol_rf (by assumption) ?_
      refine ol_iload C dX11_tellLinks_113 rfl ?_
      refine ol_lI k C (by assumption) rfl hk6 (by decide) dX11_tellLinks_115 ?_
      rw [ol_u2_s]
      refine ol_callV C (mm_isB l D cA hL (ol_MT.sq hL (h1.up _ (Or.inr (Or.inr rfl))) hT) hV hq) hm.1 hm.2 rfl wd_711 wd_4 wd_708 wd_710 wq_13 mh_X11_isBridge hR1 rfl (by first | exact Nat.le_of_ble_eq_true rfl | simp [ol_rfc, Value.category]) dX11_tellLinks_116 (ol_xi ?_)
      refine ol_if_eq (tgt := 126) C dX11_tellLinks_119 (by decide) (fun c_119 => ?_) (fun c_119 => ?_)
      · refine ol_iload_n C dX11_tellLinks_126 rfl rfl ?_
        refine ol_istore_n C dX11_tellLinks_127 rfl (by decide) ?_
        refine ol_iincN C dX11_tellLinks_128 rfl (by decide) ?_
        refine ol_goto (tgt := 77) C dX11_tellLinks_131 (by decide) ?_
        have hwy : why = ol_if (So t = 4 ∧ ∃ i, i < (k + 1) ∧ ol_br So (P (1 + i) t)) 3 0 := by
          rw [h3]
          exact congrArg (fun z => ol_if z (3 : Int32) 0) (propext (ol_ex_no (ol_p_0.mp c_119)))
        exact ih (k + 1) _ _ (by omega) (h1.up _ (Or.inr (Or.inr rfl))) hln hwy
      · refine ol_iconst (v := 3) C dX11_tellLinks_122 (by decide) ?_
        refine ol_goto (tgt := 127) C dX11_tellLinks_123 (by decide) ?_
        refine ol_istore_n C dX11_tellLinks_127 rfl (by decide) ?_
        refine ol_iincN C dX11_tellLinks_128 rfl (by decide) ?_
        refine ol_goto (tgt := 77) C dX11_tellLinks_131 (by decide) ?_
        have c4 : So t = 4 := (ol_nIk (k := 4) s6 (by decide)).mp c_105
        have hwy : (3 : Int32) = ol_if (So t = 4 ∧ ∃ i, i < (k + 1) ∧ ol_br So (P (1 + i) t)) 3 0 := by
          rw [ol_if_t ⟨c4, k, by omega, ol_p_n.mp c_119⟩]
        exact ih (k + 1) _ _ (by omega) (h1.up _ (Or.inr (Or.inr rfl))) hln hwy

set_option maxRecDepth 100000 in
set_option maxHeartbeats 4000000 in
theorem mm_tellLinks (l : Launch) (D : va_G) (cA : Nat → ClassId) {ro : Nat → Nat} {I : Nat → Nat → Int32} {F : Nat → Nat → Option Nat} {ad : Nat → Nat} (hL : ol_L ro F ad) {n : Nat} {So : Nat → Nat} {T : Nat → Nat → Int32} {P : Nat → Nat → Option Nat} (hT : ol_MT I ad n So T P) (hV : ol_V n So T P) {t : Nat} (ht : t < n) : ol_M l D cA yX11_tellLinks cX11_tellLinks 5 (some FieldType.int) (ol_r 1 0 0) [.ref (ad 10), .int (nI t)] ro I F (fun v ro' I' F' => v = some (.int (sp_lc So T P t)) ∧ ro' = ro ∧ F' = F ∧ ol_sq ad I I' ∧ (sp_lc So T P t = 0 → I' (ad 10) 11 = nI (sp_ln So P t) ∧ ∀ i, i < sp_ln So P t → I' (ad 30) i = ol_e (sp_lk So T P t i))) := by
  refine ol_M.of (by decide +kernel) (Nat.le_of_ble_eq_true rfl) (by simp [Value.category, ol_rfc]) ?_
  intro p e s m args below meth c C hret hlk hin
  have hm : ol_is ro (ad 10) (.inl 9) := hL.is 10 (by decide) (by decide) rfl
  have f_sorts : F (ad 10) 1 = some (ad 22) := hL.mf 1 22 (by decide)
  have i_sorts : ol_is ro (ad 22) (.inr (0, 40)) := hL.is 22 (by decide) (by decide) rfl
  have f_vs : F (ad 10) 3 = some (ad 24) := hL.mf 3 24 (by decide)
  have i_vs : ol_is ro (ad 24) (.inr (0, 40)) := hL.is 24 (by decide) (by decide) rfl
  have f_nexts : F (ad 10) 4 = some (ad 25) := hL.mf 4 25 (by decide)
  have i_nexts : ol_is ro (ad 25) (.inr (0, 40)) := hL.is 25 (by decide) (by decide) rfl
  have f_places : F (ad 10) 5 = some (ad 26) := hL.mf 5 26 (by decide)
  have i_places : ol_is ro (ad 26) (.inr (0, 240)) := hL.is 26 (by decide) (by decide) rfl
  have f_links : F (ad 10) 10 = some (ad 30) := hL.mf 10 30 (by decide)
  have i_links : ol_is ro (ad 30) (.inr (0, 6)) := hL.is 30 (by decide) (by decide) rfl
  have n22_10 : ad 22 ≠ ad 10 := hL.ne (by decide) (by decide) (by decide)
  have n24_10 : ad 24 ≠ ad 10 := hL.ne (by decide) (by decide) (by decide)
  have n26_10 : ad 26 ≠ ad 10 := hL.ne (by decide) (by decide) (by decide)
  have n25_10 : ad 25 ≠ ad 10 := hL.ne (by decide) (by decide) (by decide)
  have n30_10 : ad 30 ≠ ad 10 := hL.ne (by decide) (by decide) (by decide)
  have n24_30 : ad 24 ≠ ad 30 := hL.ne (by decide) (by decide) (by decide)
  have n26_30 : ad 26 ≠ ad 30 := hL.ne (by decide) (by decide) (by decide)
  have n10_30 : ad 10 ≠ ad 30 := hL.ne (by decide) (by decide) (by decide)
  have n25_30 : ad 25 ≠ ad 30 := hL.ne (by decide) (by decide) (by decide)
  have h40 := hV.1
  have s6 := (hV.2 t ht).1
  obtain ⟨e22, -, e24, -, -, e25, e26⟩ := hT.2 t ht
  have q0 : ol_sq ad I (ol_u2 I (ad 10) 11 0) := (ol_sq_rf ad I).up _ (Or.inl ⟨rfl, Or.inr rfl⟩)
  have hT0 := ol_MT.sq hL q0 hT
  have hq0 := (hV.2 t ht).2.2 0 (by decide)
  refine ol_aload_n C dX11_tellLinks_0 rfl rfl (by first | exact ol_isq_r _ | exact ol_isq_q _ | exact ol_isq_n) ?_
  refine ol_iconst (v := 0) C dX11_tellLinks_1 (by decide) ?_
  refine ol_pI (k := 11) C (by assumption) rfl rfl wd_591 (.inl rfl) rfl rfl dX11_tellLinks_2 ?_
  refine ol_aload_n C dX11_tellLinks_5 rfl rfl (by first | exact ol_isq_r _ | exact ol_isq_q _ | exact ol_isq_n) ?_
  refine ol_gR (k := 1) C (by assumption) rfl rfl wd_581 (.inl rfl) dX11_tellLinks_6 ?_
  refine ol_rf (by assumption) ?_
  refine ol_iload_n C dX11_tellLinks_9 rfl rfl ?_
  refine ol_lI t C (by assumption) rfl (by omega) (by decide) dX11_tellLinks_10 ?_
  rw [ol_u2_a _ _ n22_10]
  refine ol_ti e22 ?_
  refine ol_istore_n C dX11_tellLinks_11 rfl (by decide) ?_
  refine ol_iload_n C dX11_tellLinks_12 rfl rfl ?_
  refine ol_iconst (v := 5) C dX11_tellLinks_13 (by decide) ?_
  refine ol_icmp_ne (tgt := 62) C dX11_tellLinks_14 (by decide) (fun c_14 => ?_) (fun c_14 => ?_)
  · have s5 : ¬ So t = 5 := fun q => c_14 (by rw [q]; rfl)
    refine ol_iload_n C dX11_tellLinks_62 rfl rfl ?_
    refine ol_iconst (v := 1) C dX11_tellLinks_63 (by decide) ?_
    refine ol_icmp_eq (tgt := 72) C dX11_tellLinks_64 (by decide) (fun c_64 => ?_) (fun c_64 => ?_)
    · refine ol_iconst (v := 0) C dX11_tellLinks_72 (by decide) ?_
      refine ol_istore_n C dX11_tellLinks_73 rfl (by decide) ?_
      refine ol_iconst (v := 0) C dX11_tellLinks_74 (by decide) ?_
      refine ol_istore C dX11_tellLinks_75 (by decide) ?_
      have s14 : So t = 1 ∨ So t = 4 := Or.inl ((ol_nIk (k := 1) s6 (by decide)).mp c_64)
      refine lp_links C hL hT hV ht (by decide) (fun I1 why g1 g2 g3 => ?_) 6 0 _ 0 (by omega) q0 (fun i hi => absurd hi (by omega)) (by rw [ol_if_f (fun q => by obtain ⟨-, i, hi, -⟩ := q; omega)])
      refine ol_aload_n C dX11_tellLinks_134 rfl rfl (by first | exact ol_isq_r _ | exact ol_isq_q _ | exact ol_isq_n) ?_
      refine ol_bipush (v := 6) C dX11_tellLinks_135 (by decide) ?_
      refine ol_pI (k := 11) C (by assumption) rfl rfl wd_591 (.inl rfl) rfl rfl dX11_tellLinks_137 ?_
      refine ol_iload_n C dX11_tellLinks_140 rfl rfl ?_
      exact ol_iret C hret hlk rfl (by decide) (by decide) dX11_tellLinks_141 ⟨by rw [g3]; unfold sp_lc; rw [ol_if_f s5, ol_if_t s14], rfl, rfl, g1.up _ (Or.inl ⟨rfl, Or.inr rfl⟩), fun _ => ⟨by rw [ol_u2_s]; unfold sp_ln; rw [ol_if_f s5, ol_if_t s14]; rfl, fun i hi => by unfold sp_ln at hi; rw [ol_if_f s5, ol_if_t s14] at hi; rw [ol_u2_a _ _ n30_10, g2 i hi]; unfold sp_lk; rw [ol_if_f s5, ol_if_t s14]⟩⟩
    · have s1 : ¬ So t = 1 := fun q => c_64 (by rw [q]; rfl)
      refine ol_iload_n C dX11_tellLinks_67 rfl rfl ?_
      refine ol_iconst (v := 4) C dX11_tellLinks_68 (by decide) ?_
      refine ol_icmp_ne (tgt := 142) C dX11_tellLinks_69 (by decide) (fun c_69 => ?_) (fun c_69 => ?_)
      · have s4 : ¬ So t = 4 := fun q => c_69 (by rw [q]; rfl)
        have s14 : ¬ (So t = 1 ∨ So t = 4) := fun q => q.elim s1 s4
        refine ol_aload_n C dX11_tellLinks_142 rfl rfl (by first | exact ol_isq_r _ | exact ol_isq_q _ | exact ol_isq_n) ?_
        refine ol_gR (k := 4) C (by assumption) rfl rfl wd_584 (.inl rfl) dX11_tellLinks_143 ?_
        refine ol_rf (by assumption) ?_
        refine ol_iload_n C dX11_tellLinks_146 rfl rfl ?_
        refine ol_lI t C (by assumption) rfl (by omega) (by decide) dX11_tellLinks_147 ?_
        rw [ol_u2_a _ _ n25_10]
        refine ol_ti e25 ?_
        refine ol_ldc (v := (-1000009)) C wd_677 dX11_tellLinks_148 ?_
        refine ol_icmp_ne (tgt := 155) C dX11_tellLinks_150 (by decide) (fun c_150 => ?_) (fun c_150 => ?_)
        · have hz : ¬ P 0 t = none := by intro q; rw [q] at c_150; exact c_150 rfl
          refine ol_aload_n C dX11_tellLinks_155 rfl rfl (by first | exact ol_isq_r _ | exact ol_isq_q _ | exact ol_isq_n) ?_
          refine ol_gR (k := 10) C (by assumption) rfl rfl wd_590 (.inl rfl) dX11_tellLinks_156 ?_
          refine ol_rf (by assumption) ?_
          refine ol_iconst (v := 0) C dX11_tellLinks_159 (by decide) ?_
          refine ol_aload_n C dX11_tellLinks_160 rfl rfl (by first | exact ol_isq_r _ | exact ol_isq_q _ | exact ol_isq_n) ?_
          refine ol_gR (k := 4) C (by assumption) rfl rfl wd_584 (.inl rfl) dX11_tellLinks_161 ?_
          refine ol_rf (by assumption) ?_
          refine ol_iload_n C dX11_tellLinks_164 rfl rfl ?_
          refine ol_lI t C (by assumption) rfl (by omega) (by decide) dX11_tellLinks_165 ?_
          rw [ol_u2_a _ _ n25_10]
          refine ol_ti e25 ?_
          refine ol_sI 0 C (by assumption) rfl (by decide) (by decide) dX11_tellLinks_166 ?_
          refine ol_aload_n C dX11_tellLinks_167 rfl rfl (by first | exact ol_isq_r _ | exact ol_isq_q _ | exact ol_isq_n) ?_
          refine ol_iconst (v := 1) C dX11_tellLinks_168 (by decide) ?_
          refine ol_pI (k := 11) C (by assumption) rfl rfl wd_591 (.inl rfl) rfl rfl dX11_tellLinks_169 ?_
          refine ol_aload_n C dX11_tellLinks_172 rfl rfl (by first | exact ol_isq_r _ | exact ol_isq_q _ | exact ol_isq_n) ?_
          refine ol_aload_n C dX11_tellLinks_173 rfl rfl (by first | exact ol_isq_r _ | exact ol_isq_q _ | exact ol_isq_n) ?_
          refine ol_gR (k := 4) C (by assumption) rfl rfl wd_584 (.inl rfl) dX11_tellLinks_174 ?_
          refine ol_rf (by assumption) ?_
          refine ol_iload_n C dX11_tellLinks_177 rfl rfl ?_
          refine ol_lI t C (by assumption) rfl (by omega) (by decide) dX11_tellLinks_178 ?_
          rw [ol_u2_a _ _ n25_10, ol_u2_a _ _ n25_30, ol_u2_a _ _ n25_10]
          refine ol_ti e25 ?_
          refine ol_callV C (mm_isB l D cA hL (ol_MT.sq hL ((q0.up _ (Or.inr (Or.inr rfl))).up _ (Or.inl ⟨rfl, Or.inr rfl⟩)) hT) hV hq0) hm.1 hm.2 rfl wd_711 wd_4 wd_708 wd_710 wq_13 mh_X11_isBridge (by decide) rfl (by first | exact Nat.le_of_ble_eq_true rfl | simp [ol_rfc, Value.category]) dX11_tellLinks_179 (ol_xi ?_)
          refine ol_if_eq (tgt := 189) C dX11_tellLinks_182 (by decide) (fun c_182 => ?_) (fun c_182 => ?_)
          · refine ol_iconst (v := 0) C dX11_tellLinks_189 (by decide) ?_
            exact ol_iret C hret hlk rfl (by decide) (by decide) dX11_tellLinks_190 ⟨by unfold sp_lc; rw [ol_if_f s5, ol_if_f s14, ol_if_f (ol_p_0.mp c_182)], rfl, rfl, (q0.up _ (Or.inr (Or.inr rfl))).up _ (Or.inl ⟨rfl, Or.inr rfl⟩), fun _ => ⟨by rw [ol_u2_s]; unfold sp_ln; rw [ol_if_f s5, ol_if_f s14, ol_if_f hz]; rfl, fun i hi => by unfold sp_ln at hi; rw [ol_if_f s5, ol_if_f s14, ol_if_f hz] at hi; have hi0 : i = 0 := (by omega); subst hi0; rw [ol_u2_a _ _ n30_10, ol_u2_s]; unfold sp_lk; rw [ol_if_f s5, ol_if_f s14]⟩⟩
          · refine ol_iconst (v := 3) C dX11_tellLinks_185 (by decide) ?_
            refine ol_goto (tgt := 190) C dX11_tellLinks_186 (by decide) ?_
            exact ol_iret C hret hlk rfl (by decide) (by decide) dX11_tellLinks_190 ⟨by unfold sp_lc; rw [ol_if_f s5, ol_if_f s14, ol_if_t (ol_p_n.mp c_182)], rfl, rfl, (q0.up _ (Or.inr (Or.inr rfl))).up _ (Or.inl ⟨rfl, Or.inr rfl⟩), fun _ => ⟨by rw [ol_u2_s]; unfold sp_ln; rw [ol_if_f s5, ol_if_f s14, ol_if_f hz]; rfl, fun i hi => by unfold sp_ln at hi; rw [ol_if_f s5, ol_if_f s14, ol_if_f hz] at hi; have hi0 : i = 0 := (by omega); subst hi0; rw [ol_u2_a _ _ n30_10, ol_u2_s]; unfold sp_lk; rw [ol_if_f s5, ol_if_f s14]⟩⟩
        · have hz := ol_e_n (fun u hu => by have := hq0 u hu; omega) c_150
          refine ol_iconst (v := 0) C dX11_tellLinks_153 (by decide) ?_
          exact ol_iret C hret hlk rfl (by decide) (by decide) dX11_tellLinks_154 ⟨by unfold sp_lc; rw [ol_if_f s5, ol_if_f s14, ol_if_f (fun ⟨u, e1, _⟩ => absurd (hz.symm.trans e1) (by simp))], rfl, rfl, q0, fun _ => ⟨by rw [ol_u2_s]; unfold sp_ln; rw [ol_if_f s5, ol_if_f s14, ol_if_t hz]; rfl, fun i hi => by unfold sp_ln at hi; rw [ol_if_f s5, ol_if_f s14, ol_if_t hz] at hi; exact absurd hi (by omega)⟩⟩
      · refine ol_iconst (v := 0) C dX11_tellLinks_72 (by decide) ?_
        refine ol_istore_n C dX11_tellLinks_73 rfl (by decide) ?_
        refine ol_iconst (v := 0) C dX11_tellLinks_74 (by decide) ?_
        refine ol_istore C dX11_tellLinks_75 (by decide) ?_
        have s14 : So t = 1 ∨ So t = 4 := Or.inr ((ol_nIk (k := 4) s6 (by decide)).mp c_69)
        refine lp_links C hL hT hV ht (by decide) (fun I1 why g1 g2 g3 => ?_) 6 0 _ 0 (by omega) q0 (fun i hi => absurd hi (by omega)) (by rw [ol_if_f (fun q => by obtain ⟨-, i, hi, -⟩ := q; omega)])
        refine ol_aload_n C dX11_tellLinks_134 rfl rfl (by first | exact ol_isq_r _ | exact ol_isq_q _ | exact ol_isq_n) ?_
        refine ol_bipush (v := 6) C dX11_tellLinks_135 (by decide) ?_
        refine ol_pI (k := 11) C (by assumption) rfl rfl wd_591 (.inl rfl) rfl rfl dX11_tellLinks_137 ?_
        refine ol_iload_n C dX11_tellLinks_140 rfl rfl ?_
        exact ol_iret C hret hlk rfl (by decide) (by decide) dX11_tellLinks_141 ⟨by rw [g3]; unfold sp_lc; rw [ol_if_f s5, ol_if_t s14], rfl, rfl, g1.up _ (Or.inl ⟨rfl, Or.inr rfl⟩), fun _ => ⟨by rw [ol_u2_s]; unfold sp_ln; rw [ol_if_f s5, ol_if_t s14]; rfl, fun i hi => by unfold sp_ln at hi; rw [ol_if_f s5, ol_if_t s14] at hi; rw [ol_u2_a _ _ n30_10, g2 i hi]; unfold sp_lk; rw [ol_if_f s5, ol_if_t s14]⟩⟩
  · have s5 : So t = 5 := (ol_nIk (k := 5) s6 (by decide)).mp c_14
    refine ol_aload_n C dX11_tellLinks_17 rfl rfl (by first | exact ol_isq_r _ | exact ol_isq_q _ | exact ol_isq_n) ?_
    refine ol_gR (k := 3) C (by assumption) rfl rfl wd_583 (.inl rfl) dX11_tellLinks_18 ?_
    refine ol_rf (by assumption) ?_
    refine ol_iload_n C dX11_tellLinks_21 rfl rfl ?_
    refine ol_lI t C (by assumption) rfl (by omega) (by decide) dX11_tellLinks_22 ?_
    rw [ol_u2_a _ _ n24_10]
    refine ol_ti e24 ?_
    refine ol_iconst (v := 0) C dX11_tellLinks_23 (by decide) ?_
    refine ol_iconst (v := 5) C dX11_tellLinks_24 (by decide) ?_
    refine ol_callS C (mm_in l D cA (T 2 t) 0 5) wd_674 wd_4 wd_672 wd_673 mh_X11_in (by decide) rfl (by first | exact Nat.le_of_ble_eq_true rfl | simp [ol_rfc, Value.category]) dX11_tellLinks_25 (ol_xi ?_)
    refine ol_if_ne (tgt := 33) C dX11_tellLinks_28 (by decide) (fun c_28 => ?_) (fun c_28 => ?_)
    · have hI := (ol_k_5).mp (ol_p_n.mp c_28)
      obtain ⟨v, hv, ev, hv31⟩ := ol_k_ix hI (by omega)
      refine ol_aload_n C dX11_tellLinks_33 rfl rfl (by first | exact ol_isq_r _ | exact ol_isq_q _ | exact ol_isq_n) ?_
      refine ol_gR (k := 10) C (by assumption) rfl rfl wd_590 (.inl rfl) dX11_tellLinks_34 ?_
      refine ol_rf (by assumption) ?_
      refine ol_iconst (v := 0) C dX11_tellLinks_37 (by decide) ?_
      refine ol_aload_n C dX11_tellLinks_38 rfl rfl (by first | exact ol_isq_r _ | exact ol_isq_q _ | exact ol_isq_n) ?_
      refine ol_gR (k := 5) C (by assumption) rfl rfl wd_585 (.inl rfl) dX11_tellLinks_39 ?_
      refine ol_rf (by assumption) ?_
      refine ol_bipush (v := 6) C dX11_tellLinks_42 (by decide) ?_
      refine ol_iload_n C dX11_tellLinks_44 rfl rfl ?_
      refine ol_imul C dX11_tellLinks_45 ?_
      refine ol_aload_n C dX11_tellLinks_46 rfl rfl (by first | exact ol_isq_r _ | exact ol_isq_q _ | exact ol_isq_n) ?_
      refine ol_gR (k := 3) C (by assumption) rfl rfl wd_583 (.inl rfl) dX11_tellLinks_47 ?_
      refine ol_rf (by assumption) ?_
      refine ol_iload_n C dX11_tellLinks_50 rfl rfl ?_
      refine ol_lI t C (by assumption) rfl (by omega) (by decide) dX11_tellLinks_51 ?_
      rw [ol_u2_a _ _ n24_10]
      refine ol_ti (e24.trans ev) ?_
      refine ol_iadd C dX11_tellLinks_52 ?_
      refine ol_lI (6 * t + v) C (by assumption) (ol_ma rfl) (by omega) (by decide) dX11_tellLinks_53 ?_
      rw [ol_u2_a _ _ n26_10]
      refine ol_ti (e26 v hv) ?_
      refine ol_sI 0 C (by assumption) rfl (by decide) (by decide) dX11_tellLinks_54 ?_
      refine ol_aload_n C dX11_tellLinks_55 rfl rfl (by first | exact ol_isq_r _ | exact ol_isq_q _ | exact ol_isq_n) ?_
      refine ol_iconst (v := 1) C dX11_tellLinks_56 (by decide) ?_
      refine ol_pI (k := 11) C (by assumption) rfl rfl wd_591 (.inl rfl) rfl rfl dX11_tellLinks_57 ?_
      refine ol_iconst (v := 0) C dX11_tellLinks_60 (by decide) ?_
      exact ol_iret C hret hlk rfl (by decide) (by decide) dX11_tellLinks_61 ⟨by unfold sp_lc; rw [ol_if_t s5, ol_if_t hI], rfl, rfl, (q0.up _ (Or.inr (Or.inr rfl))).up _ (Or.inl ⟨rfl, Or.inr rfl⟩), fun _ => ⟨by rw [ol_u2_s]; unfold sp_ln; rw [ol_if_t s5]; rfl, fun i hi => by unfold sp_ln at hi; rw [ol_if_t s5] at hi; have hi0 : i = 0 := (by omega); subst hi0; rw [ol_u2_a _ _ n30_10, ol_u2_s]; unfold sp_lk; rw [ol_if_t s5, ev, nI_clamp hv31]⟩⟩
    · have hI : ¬ ol_k 6 (T 2 t) := fun q => ol_p_0.mp c_28 (ol_k_5.mpr q)
      refine ol_iconst (v := 2) C dX11_tellLinks_31 (by decide) ?_
      exact ol_iret C hret hlk rfl (by decide) (by decide) dX11_tellLinks_32 ⟨by unfold sp_lc; rw [ol_if_t s5, ol_if_f hI], rfl, rfl, q0, fun z => absurd z (by unfold sp_lc; rw [ol_if_t s5, ol_if_f hI]; decide)⟩
end
section
theorem mm_tKey (l : Launch) (D : va_G) (cA : Nat → ClassId) {ro : Nat → Nat} {I : Nat → Nat → Int32} {F : Nat → Nat → Option Nat} {ad : Nat → Nat} (hL : ol_L ro F ad) {n : Nat} {So : Nat → Nat} {T : Nat → Nat → Int32} {P : Nat → Nat → Option Nat} (hT : ol_MT I ad n So T P) (hV : ol_V n So T P) {t : Nat} (ht : t < n) : ol_M l D cA yX11_tellKey cX11_tellKey 2 (some .int) (ol_r 0 0 0) [.ref (ad 10), .int (nI t)] ro I F (ol_ei (sp_kc So T t) ro (ol_u2 I (ad 10) 9 (T 1 t)) F) := by
  have h40 := hV.1
  obtain ⟨e22, e23, -, e27, -⟩ := hT.2 t ht
  have h := mm_tellKey l D cA hL (I := I) (t := t) (by omega)
  have e : ol_p (I (ad 22) t = 6 ∧ I (ad 27) t = 0) = sp_kc So T t := ol_p_c (by rw [e22, e27]; exact and_congr_left (fun _ => ol_nIk (k := 6) (hV.2 t ht).1 (by decide)))
  rw [e, e23] at h
  exact h

theorem mm_tVal (l : Launch) (D : va_G) (cA : Nat → ClassId) {ro : Nat → Nat} {I : Nat → Nat → Int32} {F : Nat → Nat → Option Nat} {ad : Nat → Nat} (hL : ol_L ro F ad) {n : Nat} {So : Nat → Nat} {T : Nat → Nat → Int32} {P : Nat → Nat → Option Nat} (hT : ol_MT I ad n So T P) (hV : ol_V n So T P) {t : Nat} (ht : t < n) : ol_M l D cA yX11_tellValue cX11_tellValue 3 (some .int) (ol_r 0 0 0) [.ref (ad 10), .int (nI t)] ro I F (ol_ei (sp_vc So T t) ro (ol_u2 I (ad 10) 9 (sp_vv So T t)) F) := by
  have h40 := hV.1
  obtain ⟨e22, -, e24, -⟩ := hT.2 t ht
  have h := mm_tellValue l D cA hL (I := I) (t := t) (by omega)
  have s6 := (hV.2 t ht).1
  rw [e22, e24, propext (show (nI (So t) = 3) ↔ So t = 3 from ol_nIk (k := 3) s6 (by decide)), propext (show (nI (So t) = 1) ↔ So t = 1 from ol_nIk (k := 1) s6 (by decide)), propext (show (nI (So t) = 4) ↔ So t = 4 from ol_nIk (k := 4) s6 (by decide))] at h
  exact h

set_option maxRecDepth 100000 in
set_option maxHeartbeats 4000000 in
theorem mm_tells (l : Launch) (D : va_G) (cA : Nat → ClassId) {ro : Nat → Nat} {I : Nat → Nat → Int32} {F : Nat → Nat → Option Nat} {ad : Nat → Nat} (hL : ol_L ro F ad) {n : Nat} {So : Nat → Nat} {T : Nat → Nat → Int32} {P : Nat → Nat → Option Nat} (hT : ol_MT I ad n So T P) (hV : ol_V n So T P) (t w : Int32) : ol_M l D cA yX11_tells cX11_tells 4 (some FieldType.int) (ol_r 2 0 0) [.ref (ad 10), .int t, .int w] ro I F (fun v ro' I' F' => v = some (.int (sp_tl n So T P t w)) ∧ ro' = ro ∧ F' = F ∧ ol_sq ad I I' ) := by
  refine ol_M.of (by decide +kernel) (Nat.le_of_ble_eq_true rfl) (by simp [Value.category, ol_rfc]) ?_
  intro p e s m args below meth c C hret hlk hin
  have hm : ol_is ro (ad 10) (.inl 9) := hL.is 10 (by decide) (by decide) rfl
  have f_sorts : F (ad 10) 1 = some (ad 22) := hL.mf 1 22 (by decide)
  have i_sorts : ol_is ro (ad 22) (.inr (0, 40)) := hL.is 22 (by decide) (by decide) rfl
  have f_links : F (ad 10) 10 = some (ad 30) := hL.mf 10 30 (by decide)
  have i_links : ol_is ro (ad 30) (.inr (0, 6)) := hL.is 30 (by decide) (by decide) rfl
  have h40 := hV.1
  have hn := hT.1
  have n22_10 : ad 22 ≠ ad 10 := hL.ne (by decide) (by decide) (by decide)
  refine ol_aload_n C dX11_tells_0 rfl rfl (by first | exact ol_isq_r _ | exact ol_isq_q _ | exact ol_isq_n) ?_
  refine ol_iload_n C dX11_tells_1 rfl rfl ?_
  refine ol_callV C (mm_isThing l D cA hL hn h40 t) hm.1 hm.2 rfl wd_685 wd_4 wd_682 wd_684 wq_12 mh_X11_isThing (by decide) rfl (by first | exact Nat.le_of_ble_eq_true rfl | simp [ol_rfc, Value.category]) dX11_tells_2 (ol_xi ?_)
  refine ol_if_ne (tgt := 11) C dX11_tells_5 (by decide) (fun c_5 => ?_) (fun c_5 => ?_)
  · have hK := ol_p_n.mp c_5
    obtain ⟨j, hj, rfl, hj31⟩ := ol_k_ix hK h40
    have hj40 : j < 40 := by omega
    obtain ⟨e22, -⟩ := hT.2 j hj
    refine ol_iload_n C dX11_tells_11 rfl rfl ?_
    refine ol_iconst (v := 0) C dX11_tells_12 (by decide) ?_
    refine ol_iconst (v := 2) C dX11_tells_13 (by decide) ?_
    refine ol_callS C (mm_in l D cA w 0 2) wd_674 wd_4 wd_672 wd_673 mh_X11_in (by decide) rfl (by first | exact Nat.le_of_ble_eq_true rfl | simp [ol_rfc, Value.category]) dX11_tells_14 (ol_xi ?_)
    refine ol_if_ne (tgt := 23) C dX11_tells_17 (by decide) (fun c_17 => ?_) (fun c_17 => ?_)
    · have hW := (ol_k_2).mp (ol_p_n.mp c_17)
      refine ol_iload_n C dX11_tells_23 rfl rfl ?_
      refine ol_if_ne (tgt := 35) C dX11_tells_24 (by decide) (fun c_24 => ?_) (fun c_24 => ?_)
      · refine ol_iload_n C dX11_tells_35 rfl rfl ?_
        refine ol_iconst (v := 1) C dX11_tells_36 (by decide) ?_
        refine ol_icmp_ne (tgt := 48) C dX11_tells_37 (by decide) (fun c_37 => ?_) (fun c_37 => ?_)
        · refine ol_aload_n C dX11_tells_48 rfl rfl (by first | exact ol_isq_r _ | exact ol_isq_q _ | exact ol_isq_n) ?_
          refine ol_gR (k := 1) C (by assumption) rfl rfl wd_581 (.inl rfl) dX11_tells_49 ?_
          refine ol_rf (by assumption) ?_
          refine ol_iload_n C dX11_tells_52 rfl rfl ?_
          refine ol_lI j C (by assumption) rfl hj40 (by decide) dX11_tells_53 ?_
          refine ol_ti e22 ?_
          refine ol_iconst (v := 2) C dX11_tells_54 (by decide) ?_
          refine ol_icmp_ne (tgt := 62) C dX11_tells_55 (by decide) (fun c_55 => ?_) (fun c_55 => ?_)
          · have s2 : ¬ So j = 2 := fun q => c_55 (by rw [q]; rfl)
            refine ol_aload_n C dX11_tells_62 rfl rfl (by first | exact ol_isq_r _ | exact ol_isq_q _ | exact ol_isq_n) ?_
            refine ol_iload_n C dX11_tells_63 rfl rfl ?_
            refine ol_callV C (mm_tellLinks l D cA hL hT hV hj) hm.1 hm.2 rfl wd_742 wd_4 wd_739 wd_741 wq_19 mh_X11_tellLinks (by decide) rfl (by first | exact Nat.le_of_ble_eq_true rfl | simp [ol_rfc, Value.category]) dX11_tells_64 (fun v_64 ro_64 I_64 F_64 hh_64 => ?_)
            obtain ⟨rfl, rfl, rfl, q1, q2⟩ := hh_64
            refine ol_st (st' := .int _ :: _) rfl ?_
            refine ol_istore_n C dX11_tells_67 rfl (by decide) ?_
            refine ol_iload_n C dX11_tells_68 rfl rfl ?_
            refine ol_if_le (tgt := 79) C dX11_tells_69 (by decide) (fun c_69 => ?_) (fun c_69 => ?_)
            · have z0 := (sp_l0 _ _ _ _).mp c_69
              obtain ⟨y1, y2⟩ := q2 z0
              refine ol_iload_n C dX11_tells_79 rfl rfl ?_
              refine ol_iconst (v := 2) C dX11_tells_80 (by decide) ?_
              refine ol_icmp_ge (tgt := 91) C dX11_tells_81 (by decide) (fun c_81 => ?_) (fun c_81 => by rcases ol_k3_012 hW with h | h | h; exact absurd h c_24; exact absurd h c_37; rw [h] at c_81; exact absurd (by decide) c_81)
              refine ol_aload_n C dX11_tells_91 rfl rfl (by first | exact ol_isq_r _ | exact ol_isq_q _ | exact ol_isq_n) ?_
              refine ol_gR (k := 1) C (by assumption) rfl rfl wd_581 (.inl rfl) dX11_tells_92 ?_
              refine ol_rf (by assumption) ?_
              refine ol_iload_n C dX11_tells_95 rfl rfl ?_
              refine ol_lI j C (by assumption) rfl hj40 (by decide) dX11_tells_96 ?_
              rw [q1.row hL 22 j (by decide) (by decide) (by decide) (by decide)]
              refine ol_ti e22 ?_
              refine ol_iconst (v := 2) C dX11_tells_97 (by decide) ?_
              refine ol_icmp_ne (tgt := 105) C dX11_tells_98 (by decide) (fun c_98 => ?_) (fun c_98 => absurd ((ol_nIk (k := 2) (hV.2 j hj).1 (by decide)).mp c_98) s2)
              refine ol_aload_n C dX11_tells_105 rfl rfl (by first | exact ol_isq_r _ | exact ol_isq_q _ | exact ol_isq_n) ?_
              refine ol_gI (k := 11) C (by assumption) rfl rfl wd_591 (.inl rfl) dX11_tells_106 ?_
              refine ol_ti y1 ?_
              exact ol_iret C hret hlk rfl (by decide) (by decide) dX11_tells_109 ⟨by unfold sp_tl; rw [ol_if_t hK, nI_clamp hj31, ol_if_t hW, ol_if_f c_24, ol_if_f c_37, ol_if_f s2, ol_if_t z0], rfl, rfl, q1⟩
            · refine ol_ldc (v := (-1000010)) C wd_734 dX11_tells_72 ?_
              refine ol_iload_n C dX11_tells_74 rfl rfl ?_
              refine ol_isub C dX11_tells_75 ?_
              refine ol_goto (tgt := 109) C dX11_tells_76 (by decide) ?_
              exact ol_iret C hret hlk rfl (by decide) (by decide) dX11_tells_109 ⟨by unfold sp_tl; rw [ol_if_t hK, nI_clamp hj31, ol_if_t hW, ol_if_f c_24, ol_if_f c_37, ol_if_f s2, ol_if_f (fun z => c_69 ((sp_l0 _ _ _ _).mpr z))], rfl, rfl, q1⟩
          · have s2 : So j = 2 := (ol_nIk (k := 2) (hV.2 j hj).1 (by decide)).mp c_55
            have q1 := ol_sq_rf ad I
            refine ol_iconst (v := 0) C dX11_tells_58 (by decide) ?_
            refine ol_goto (tgt := 67) C dX11_tells_59 (by decide) ?_
            refine ol_istore_n C dX11_tells_67 rfl (by decide) ?_
            refine ol_iload_n C dX11_tells_68 rfl rfl ?_
            refine ol_if_le (tgt := 79) C dX11_tells_69 (by decide) (fun c_69 => ?_) (fun c_69 => absurd (show (0 : Int32) ≤ 0 by decide) c_69)
            refine ol_iload_n C dX11_tells_79 rfl rfl ?_
            refine ol_iconst (v := 2) C dX11_tells_80 (by decide) ?_
            refine ol_icmp_ge (tgt := 91) C dX11_tells_81 (by decide) (fun c_81 => ?_) (fun c_81 => by rcases ol_k3_012 hW with h | h | h; exact absurd h c_24; exact absurd h c_37; rw [h] at c_81; exact absurd (by decide) c_81)
            refine ol_aload_n C dX11_tells_91 rfl rfl (by first | exact ol_isq_r _ | exact ol_isq_q _ | exact ol_isq_n) ?_
            refine ol_gR (k := 1) C (by assumption) rfl rfl wd_581 (.inl rfl) dX11_tells_92 ?_
            refine ol_rf (by assumption) ?_
            refine ol_iload_n C dX11_tells_95 rfl rfl ?_
            refine ol_lI j C (by assumption) rfl hj40 (by decide) dX11_tells_96 ?_
            refine ol_ti e22 ?_
            refine ol_iconst (v := 2) C dX11_tells_97 (by decide) ?_
            refine ol_icmp_ne (tgt := 105) C dX11_tells_98 (by decide) (fun c_98 => absurd (show nI (So j) = 2 by rw [s2]; rfl) c_98) (fun c_98 => ?_)
            refine ol_iconst (v := 2) C dX11_tells_101 (by decide) ?_
            refine ol_goto (tgt := 109) C dX11_tells_102 (by decide) ?_
            exact ol_iret C hret hlk rfl (by decide) (by decide) dX11_tells_109 ⟨by unfold sp_tl; rw [ol_if_t hK, nI_clamp hj31, ol_if_t hW, ol_if_f c_24, ol_if_f c_37, ol_if_t s2], rfl, rfl, q1⟩
        · refine ol_aload_n C dX11_tells_40 rfl rfl (by first | exact ol_isq_r _ | exact ol_isq_q _ | exact ol_isq_n) ?_
          refine ol_iload_n C dX11_tells_41 rfl rfl ?_
          refine ol_callV C (mm_tVal l D cA hL hT hV hj) hm.1 hm.2 rfl wd_738 wd_4 wd_735 wd_737 wq_18 mh_X11_tellValue (by decide) rfl (by first | exact Nat.le_of_ble_eq_true rfl | simp [ol_rfc, Value.category]) dX11_tells_42 (ol_xi ?_)
          have q1 := (ol_sq_rf ad I).up (sp_vv So T j) (Or.inl ⟨rfl, Or.inl rfl⟩)
          refine ol_goto (tgt := 67) C dX11_tells_45 (by decide) ?_
          refine ol_istore_n C dX11_tells_67 rfl (by decide) ?_
          refine ol_iload_n C dX11_tells_68 rfl rfl ?_
          refine ol_if_le (tgt := 79) C dX11_tells_69 (by decide) (fun c_69 => ?_) (fun c_69 => ?_)
          · refine ol_iload_n C dX11_tells_79 rfl rfl ?_
            refine ol_iconst (v := 2) C dX11_tells_80 (by decide) ?_
            refine ol_icmp_ge (tgt := 91) C dX11_tells_81 (by decide) (fun c_81 => by first | (rw [c_24] at c_81; exact absurd c_81 (by decide)) | (rw [c_37] at c_81; exact absurd c_81 (by decide))) (fun c_81 => ?_)
            refine ol_aload_n C dX11_tells_84 rfl rfl (by first | exact ol_isq_r _ | exact ol_isq_q _ | exact ol_isq_n) ?_
            refine ol_gI (k := 9) C (by assumption) rfl rfl wd_589 (.inl rfl) dX11_tells_85 ?_
            rw [ol_u2_s]
            refine ol_goto (tgt := 109) C dX11_tells_88 (by decide) ?_
            exact ol_iret C hret hlk rfl (by decide) (by decide) dX11_tells_109 ⟨by unfold sp_tl; rw [ol_if_t hK, nI_clamp hj31, ol_if_t hW, ol_if_f c_24, ol_if_t c_37, ol_if_t ((sp_v0 _ _ _).mp c_69)], rfl, rfl, q1⟩
          · refine ol_ldc (v := (-1000010)) C wd_734 dX11_tells_72 ?_
            refine ol_iload_n C dX11_tells_74 rfl rfl ?_
            refine ol_isub C dX11_tells_75 ?_
            refine ol_goto (tgt := 109) C dX11_tells_76 (by decide) ?_
            exact ol_iret C hret hlk rfl (by decide) (by decide) dX11_tells_109 ⟨by unfold sp_tl; rw [ol_if_t hK, nI_clamp hj31, ol_if_t hW, ol_if_f c_24, ol_if_t c_37, ol_if_f (fun z => c_69 ((sp_v0 _ _ _).mpr z))], rfl, rfl, q1⟩
      · refine ol_aload_n C dX11_tells_27 rfl rfl (by first | exact ol_isq_r _ | exact ol_isq_q _ | exact ol_isq_n) ?_
        refine ol_iload_n C dX11_tells_28 rfl rfl ?_
        refine ol_callV C (mm_tKey l D cA hL hT hV hj) hm.1 hm.2 rfl wd_729 wd_4 wd_726 wd_728 wq_16 mh_X11_tellKey (by decide) rfl (by first | exact Nat.le_of_ble_eq_true rfl | simp [ol_rfc, Value.category]) dX11_tells_29 (ol_xi ?_)
        have q1 := (ol_sq_rf ad I).up (T 1 j) (Or.inl ⟨rfl, Or.inl rfl⟩)
        refine ol_goto (tgt := 67) C dX11_tells_32 (by decide) ?_
        refine ol_istore_n C dX11_tells_67 rfl (by decide) ?_
        refine ol_iload_n C dX11_tells_68 rfl rfl ?_
        refine ol_if_le (tgt := 79) C dX11_tells_69 (by decide) (fun c_69 => ?_) (fun c_69 => ?_)
        · refine ol_iload_n C dX11_tells_79 rfl rfl ?_
          refine ol_iconst (v := 2) C dX11_tells_80 (by decide) ?_
          refine ol_icmp_ge (tgt := 91) C dX11_tells_81 (by decide) (fun c_81 => by first | (rw [c_24] at c_81; exact absurd c_81 (by decide)) | (rw [c_37] at c_81; exact absurd c_81 (by decide))) (fun c_81 => ?_)
          refine ol_aload_n C dX11_tells_84 rfl rfl (by first | exact ol_isq_r _ | exact ol_isq_q _ | exact ol_isq_n) ?_
          refine ol_gI (k := 9) C (by assumption) rfl rfl wd_589 (.inl rfl) dX11_tells_85 ?_
          rw [ol_u2_s]
          refine ol_goto (tgt := 109) C dX11_tells_88 (by decide) ?_
          exact ol_iret C hret hlk rfl (by decide) (by decide) dX11_tells_109 ⟨by unfold sp_tl; rw [ol_if_t hK, nI_clamp hj31, ol_if_t hW, ol_if_t c_24, ol_if_t ((sp_k0 _ _ _).mp c_69)], rfl, rfl, q1⟩
        · refine ol_ldc (v := (-1000010)) C wd_734 dX11_tells_72 ?_
          refine ol_iload_n C dX11_tells_74 rfl rfl ?_
          refine ol_isub C dX11_tells_75 ?_
          refine ol_goto (tgt := 109) C dX11_tells_76 (by decide) ?_
          exact ol_iret C hret hlk rfl (by decide) (by decide) dX11_tells_109 ⟨by unfold sp_tl; rw [ol_if_t hK, nI_clamp hj31, ol_if_t hW, ol_if_t c_24, ol_if_f (fun z => c_69 ((sp_k0 _ _ _).mpr z))], rfl, rfl, q1⟩
    · have hW : ¬ ol_k 3 w := fun q => ol_p_0.mp c_17 (ol_k_2.mpr q)
      refine ol_ldc (v := (-1000002)) C wd_675 dX11_tells_20 ?_
      exact ol_iret C hret hlk rfl (by decide) (by decide) dX11_tells_22 ⟨by unfold sp_tl; rw [ol_if_t hK, ol_if_f hW], rfl, rfl, ol_sq_rf ad I⟩
  · have hK := ol_p_0.mp c_5
    refine ol_ldc (v := (-1000001)) C wd_686 dX11_tells_8 ?_
    exact ol_iret C hret hlk rfl (by decide) (by decide) dX11_tells_10 ⟨by unfold sp_tl; rw [ol_if_f hK], rfl, rfl, ol_sq_rf ad I⟩

set_option maxRecDepth 100000 in
set_option maxHeartbeats 4000000 in
theorem mm_is (l : Launch) (D : va_G) (cA : Nat → ClassId) {ro : Nat → Nat} {I : Nat → Nat → Int32} {F : Nat → Nat → Option Nat} {ad : Nat → Nat} (hL : ol_L ro F ad) {n : Nat} {So : Nat → Nat} {T : Nat → Nat → Int32} {P : Nat → Nat → Option Nat} (hT : ol_MT I ad n So T P) (hV : ol_V n So T P) (t f : Int32) : ol_M l D cA yX11_is cX11_is 5 (some FieldType.int) (ol_r 2 0 0) [.ref (ad 10), .int t, .int f] ro I F (ol_ei (sp_is n So t f) ro I F) := by
  refine ol_M.of (by decide +kernel) (Nat.le_of_ble_eq_true rfl) (by simp [Value.category, ol_rfc]) ?_
  intro p e s m args below meth c C hret hlk hin
  have hm : ol_is ro (ad 10) (.inl 9) := hL.is 10 (by decide) (by decide) rfl
  have f_sorts : F (ad 10) 1 = some (ad 22) := hL.mf 1 22 (by decide)
  have i_sorts : ol_is ro (ad 22) (.inr (0, 40)) := hL.is 22 (by decide) (by decide) rfl
  have h40 := hV.1
  have hn := hT.1
  refine ol_aload_n C dX11_is_0 rfl rfl (by first | exact ol_isq_r _ | exact ol_isq_q _ | exact ol_isq_n) ?_
  refine ol_iload_n C dX11_is_1 rfl rfl ?_
  refine ol_callV C (mm_isThing l D cA hL hn h40 t) hm.1 hm.2 rfl wd_685 wd_4 wd_682 wd_684 wq_12 mh_X11_isThing (by decide) rfl (by first | exact Nat.le_of_ble_eq_true rfl | simp [ol_rfc, Value.category]) dX11_is_2 (ol_xi ?_)
  refine ol_if_ne (tgt := 11) C dX11_is_5 (by decide) (fun c_5 => ?_) (fun c_5 => ?_)
  · have hK := ol_p_n.mp c_5
    obtain ⟨j, hj, rfl, hj31⟩ := ol_k_ix hK h40
    have hj40 : j < 40 := by omega
    obtain ⟨e22, -⟩ := hT.2 j hj
    have s6 := (hV.2 j hj).1
    refine ol_aload_n C dX11_is_11 rfl rfl (by first | exact ol_isq_r _ | exact ol_isq_q _ | exact ol_isq_n) ?_
    refine ol_gR (k := 1) C (by assumption) rfl rfl wd_581 (.inl rfl) dX11_is_12 ?_
    refine ol_rf (by assumption) ?_
    refine ol_iload_n C dX11_is_15 rfl rfl ?_
    refine ol_lI j C (by assumption) rfl hj40 (by decide) dX11_is_16 ?_
    refine ol_ti e22 ?_
    refine ol_istore_n C dX11_is_17 rfl (by decide) ?_
    refine ol_iload_n C dX11_is_18 rfl rfl ?_
    refine ol_if_ne (tgt := 35) C dX11_is_19 (by decide) (fun c_19 => ?_) (fun c_19 => ?_)
    · refine ol_iload_n C dX11_is_35 rfl rfl ?_
      refine ol_iconst (v := 1) C dX11_is_36 (by decide) ?_
      refine ol_icmp_ne (tgt := 63) C dX11_is_37 (by decide) (fun c_37 => ?_) (fun c_37 => ?_)
      · refine ol_iload_n C dX11_is_63 rfl rfl ?_
        refine ol_iconst (v := 2) C dX11_is_64 (by decide) ?_
        refine ol_icmp_ne (tgt := 72) C dX11_is_65 (by decide) (fun c_65 => ?_) (fun c_65 => ?_)
        · refine ol_iconst (v := 0) C dX11_is_72 (by decide) ?_
          refine ol_istore C dX11_is_73 (by decide) ?_
          refine ol_iload_n C dX11_is_75 rfl rfl ?_
          refine ol_iconst (v := 0) C dX11_is_76 (by decide) ?_
          refine ol_iconst (v := 2) C dX11_is_77 (by decide) ?_
          refine ol_callS C (mm_in l D cA f 0 2) wd_674 wd_4 wd_672 wd_673 mh_X11_in (by decide) rfl (by first | exact Nat.le_of_ble_eq_true rfl | simp [ol_rfc, Value.category]) dX11_is_78 (ol_xi ?_)
          refine ol_if_ne (tgt := 89) C dX11_is_81 (by decide) (fun c_81 => ?_) (fun c_81 => ?_)
          · have f2 : f = 2 := by rcases ol_k3_012 (ol_k_2.mp (ol_p_n.mp c_81)) with h | h | h; exact absurd h c_19; exact absurd h c_37; exact h
            refine ol_iload C dX11_is_89 rfl ?_
            refine ol_if_eq (tgt := 98) C dX11_is_91 (by decide) (fun c_91 => ?_) (fun c_91 => absurd (show (0 : Int32) = 0 from rfl) c_91)
            refine ol_iconst (v := 0) C dX11_is_98 (by decide) ?_
            exact ol_iret C hret hlk rfl (by decide) (by decide) dX11_is_99 ⟨by unfold sp_is; rw [ol_if_t hK, nI_clamp hj31, ol_if_f c_19, ol_if_f c_37, ol_if_t f2]; exact ol_pf (fun z => c_65 ((ol_nIk (k := 2) s6 (by decide)).mpr z)), rfl, rfl, rfl⟩
          · have f2 : ¬ f = 2 := fun h => ol_p_0.mp c_81 (ol_k_2.mpr (by rw [h]; unfold ol_k; decide))
            refine ol_ldc (v := (-1000002)) C wd_675 dX11_is_84 ?_
            refine ol_goto (tgt := 99) C dX11_is_86 (by decide) ?_
            exact ol_iret C hret hlk rfl (by decide) (by decide) dX11_is_99 ⟨by unfold sp_is; rw [ol_if_t hK, nI_clamp hj31, ol_if_f c_19, ol_if_f c_37, ol_if_f f2], rfl, rfl, rfl⟩
        · refine ol_iconst (v := 1) C dX11_is_68 (by decide) ?_
          refine ol_goto (tgt := 73) C dX11_is_69 (by decide) ?_
          refine ol_istore C dX11_is_73 (by decide) ?_
          refine ol_iload_n C dX11_is_75 rfl rfl ?_
          refine ol_iconst (v := 0) C dX11_is_76 (by decide) ?_
          refine ol_iconst (v := 2) C dX11_is_77 (by decide) ?_
          refine ol_callS C (mm_in l D cA f 0 2) wd_674 wd_4 wd_672 wd_673 mh_X11_in (by decide) rfl (by first | exact Nat.le_of_ble_eq_true rfl | simp [ol_rfc, Value.category]) dX11_is_78 (ol_xi ?_)
          refine ol_if_ne (tgt := 89) C dX11_is_81 (by decide) (fun c_81 => ?_) (fun c_81 => ?_)
          · have f2 : f = 2 := by rcases ol_k3_012 (ol_k_2.mp (ol_p_n.mp c_81)) with h | h | h; exact absurd h c_19; exact absurd h c_37; exact h
            refine ol_iload C dX11_is_89 rfl ?_
            refine ol_if_eq (tgt := 98) C dX11_is_91 (by decide) (fun c_91 => absurd c_91 (by decide)) (fun c_91 => ?_)
            refine ol_iconst (v := 1) C dX11_is_94 (by decide) ?_
            refine ol_goto (tgt := 99) C dX11_is_95 (by decide) ?_
            exact ol_iret C hret hlk rfl (by decide) (by decide) dX11_is_99 ⟨by unfold sp_is; rw [ol_if_t hK, nI_clamp hj31, ol_if_f c_19, ol_if_f c_37, ol_if_t f2]; exact ol_pt ((ol_nIk (k := 2) s6 (by decide)).mp c_65), rfl, rfl, rfl⟩
          · have f2 : ¬ f = 2 := fun h => ol_p_0.mp c_81 (ol_k_2.mpr (by rw [h]; unfold ol_k; decide))
            refine ol_ldc (v := (-1000002)) C wd_675 dX11_is_84 ?_
            refine ol_goto (tgt := 99) C dX11_is_86 (by decide) ?_
            exact ol_iret C hret hlk rfl (by decide) (by decide) dX11_is_99 ⟨by unfold sp_is; rw [ol_if_t hK, nI_clamp hj31, ol_if_f c_19, ol_if_f c_37, ol_if_f f2], rfl, rfl, rfl⟩
      · refine ol_iload_n C dX11_is_40 rfl rfl ?_
        refine ol_iconst (v := 1) C dX11_is_41 (by decide) ?_
        refine ol_icmp_eq (tgt := 55) C dX11_is_42 (by decide) (fun c_42 => ?_) (fun c_42 => ?_)
        · refine ol_iconst (v := 1) C dX11_is_55 (by decide) ?_
          refine ol_goto (tgt := 73) C dX11_is_56 (by decide) ?_
          refine ol_istore C dX11_is_73 (by decide) ?_
          refine ol_iload_n C dX11_is_75 rfl rfl ?_
          refine ol_iconst (v := 0) C dX11_is_76 (by decide) ?_
          refine ol_iconst (v := 2) C dX11_is_77 (by decide) ?_
          refine ol_callS C (mm_in l D cA f 0 2) wd_674 wd_4 wd_672 wd_673 mh_X11_in (by decide) rfl (by first | exact Nat.le_of_ble_eq_true rfl | simp [ol_rfc, Value.category]) dX11_is_78 (ol_xi ?_)
          refine ol_if_ne (tgt := 89) C dX11_is_81 (by decide) (fun c_81 => ?_) (fun c_81 => by rw [c_37] at c_81; exact absurd (ol_k_2.mpr (by unfold ol_k; decide)) (ol_p_0.mp c_81))
          refine ol_iload C dX11_is_89 rfl ?_
          refine ol_if_eq (tgt := 98) C dX11_is_91 (by decide) (fun c_91 => absurd c_91 (by decide)) (fun c_91 => ?_)
          refine ol_iconst (v := 1) C dX11_is_94 (by decide) ?_
          refine ol_goto (tgt := 99) C dX11_is_95 (by decide) ?_
          exact ol_iret C hret hlk rfl (by decide) (by decide) dX11_is_99 ⟨by unfold sp_is; rw [ol_if_t hK, nI_clamp hj31, ol_if_f c_19, ol_if_t c_37]; exact ol_pt (Or.inl ((ol_nIk (k := 1) s6 (by decide)).mp c_42)), rfl, rfl, rfl⟩
        · refine ol_iload_n C dX11_is_45 rfl rfl ?_
          refine ol_iconst (v := 4) C dX11_is_46 (by decide) ?_
          refine ol_icmp_eq (tgt := 55) C dX11_is_47 (by decide) (fun c_47 => ?_) (fun c_47 => ?_)
          · refine ol_iconst (v := 1) C dX11_is_55 (by decide) ?_
            refine ol_goto (tgt := 73) C dX11_is_56 (by decide) ?_
            refine ol_istore C dX11_is_73 (by decide) ?_
            refine ol_iload_n C dX11_is_75 rfl rfl ?_
            refine ol_iconst (v := 0) C dX11_is_76 (by decide) ?_
            refine ol_iconst (v := 2) C dX11_is_77 (by decide) ?_
            refine ol_callS C (mm_in l D cA f 0 2) wd_674 wd_4 wd_672 wd_673 mh_X11_in (by decide) rfl (by first | exact Nat.le_of_ble_eq_true rfl | simp [ol_rfc, Value.category]) dX11_is_78 (ol_xi ?_)
            refine ol_if_ne (tgt := 89) C dX11_is_81 (by decide) (fun c_81 => ?_) (fun c_81 => by rw [c_37] at c_81; exact absurd (ol_k_2.mpr (by unfold ol_k; decide)) (ol_p_0.mp c_81))
            refine ol_iload C dX11_is_89 rfl ?_
            refine ol_if_eq (tgt := 98) C dX11_is_91 (by decide) (fun c_91 => absurd c_91 (by decide)) (fun c_91 => ?_)
            refine ol_iconst (v := 1) C dX11_is_94 (by decide) ?_
            refine ol_goto (tgt := 99) C dX11_is_95 (by decide) ?_
            exact ol_iret C hret hlk rfl (by decide) (by decide) dX11_is_99 ⟨by unfold sp_is; rw [ol_if_t hK, nI_clamp hj31, ol_if_f c_19, ol_if_t c_37]; exact ol_pt (Or.inr (Or.inl ((ol_nIk (k := 4) s6 (by decide)).mp c_47))), rfl, rfl, rfl⟩
          · refine ol_iload_n C dX11_is_50 rfl rfl ?_
            refine ol_iconst (v := 5) C dX11_is_51 (by decide) ?_
            refine ol_icmp_ne (tgt := 59) C dX11_is_52 (by decide) (fun c_52 => ?_) (fun c_52 => ?_)
            · refine ol_iconst (v := 0) C dX11_is_59 (by decide) ?_
              refine ol_goto (tgt := 73) C dX11_is_60 (by decide) ?_
              refine ol_istore C dX11_is_73 (by decide) ?_
              refine ol_iload_n C dX11_is_75 rfl rfl ?_
              refine ol_iconst (v := 0) C dX11_is_76 (by decide) ?_
              refine ol_iconst (v := 2) C dX11_is_77 (by decide) ?_
              refine ol_callS C (mm_in l D cA f 0 2) wd_674 wd_4 wd_672 wd_673 mh_X11_in (by decide) rfl (by first | exact Nat.le_of_ble_eq_true rfl | simp [ol_rfc, Value.category]) dX11_is_78 (ol_xi ?_)
              refine ol_if_ne (tgt := 89) C dX11_is_81 (by decide) (fun c_81 => ?_) (fun c_81 => by rw [c_37] at c_81; exact absurd (ol_k_2.mpr (by unfold ol_k; decide)) (ol_p_0.mp c_81))
              refine ol_iload C dX11_is_89 rfl ?_
              refine ol_if_eq (tgt := 98) C dX11_is_91 (by decide) (fun c_91 => ?_) (fun c_91 => absurd (show (0 : Int32) = 0 from rfl) c_91)
              refine ol_iconst (v := 0) C dX11_is_98 (by decide) ?_
              exact ol_iret C hret hlk rfl (by decide) (by decide) dX11_is_99 ⟨by unfold sp_is; rw [ol_if_t hK, nI_clamp hj31, ol_if_f c_19, ol_if_t c_37]; exact ol_pf (fun q => q.elim (fun z => c_42 ((ol_nIk (k := 1) s6 (by decide)).mpr z)) (fun q => q.elim (fun z => c_47 ((ol_nIk (k := 4) s6 (by decide)).mpr z)) (fun z => c_52 ((ol_nIk (k := 5) s6 (by decide)).mpr z)))), rfl, rfl, rfl⟩
            · refine ol_iconst (v := 1) C dX11_is_55 (by decide) ?_
              refine ol_goto (tgt := 73) C dX11_is_56 (by decide) ?_
              refine ol_istore C dX11_is_73 (by decide) ?_
              refine ol_iload_n C dX11_is_75 rfl rfl ?_
              refine ol_iconst (v := 0) C dX11_is_76 (by decide) ?_
              refine ol_iconst (v := 2) C dX11_is_77 (by decide) ?_
              refine ol_callS C (mm_in l D cA f 0 2) wd_674 wd_4 wd_672 wd_673 mh_X11_in (by decide) rfl (by first | exact Nat.le_of_ble_eq_true rfl | simp [ol_rfc, Value.category]) dX11_is_78 (ol_xi ?_)
              refine ol_if_ne (tgt := 89) C dX11_is_81 (by decide) (fun c_81 => ?_) (fun c_81 => by rw [c_37] at c_81; exact absurd (ol_k_2.mpr (by unfold ol_k; decide)) (ol_p_0.mp c_81))
              refine ol_iload C dX11_is_89 rfl ?_
              refine ol_if_eq (tgt := 98) C dX11_is_91 (by decide) (fun c_91 => absurd c_91 (by decide)) (fun c_91 => ?_)
              refine ol_iconst (v := 1) C dX11_is_94 (by decide) ?_
              refine ol_goto (tgt := 99) C dX11_is_95 (by decide) ?_
              exact ol_iret C hret hlk rfl (by decide) (by decide) dX11_is_99 ⟨by unfold sp_is; rw [ol_if_t hK, nI_clamp hj31, ol_if_f c_19, ol_if_t c_37]; exact ol_pt (Or.inr (Or.inr ((ol_nIk (k := 5) s6 (by decide)).mp c_52))), rfl, rfl, rfl⟩
    · refine ol_iload_n C dX11_is_22 rfl rfl ?_
      refine ol_iconst (v := 2) C dX11_is_23 (by decide) ?_
      refine ol_icmp_eq (tgt := 31) C dX11_is_24 (by decide) (fun c_24 => ?_) (fun c_24 => ?_)
      · refine ol_iconst (v := 0) C dX11_is_31 (by decide) ?_
        refine ol_goto (tgt := 73) C dX11_is_32 (by decide) ?_
        refine ol_istore C dX11_is_73 (by decide) ?_
        refine ol_iload_n C dX11_is_75 rfl rfl ?_
        refine ol_iconst (v := 0) C dX11_is_76 (by decide) ?_
        refine ol_iconst (v := 2) C dX11_is_77 (by decide) ?_
        refine ol_callS C (mm_in l D cA f 0 2) wd_674 wd_4 wd_672 wd_673 mh_X11_in (by decide) rfl (by first | exact Nat.le_of_ble_eq_true rfl | simp [ol_rfc, Value.category]) dX11_is_78 (ol_xi ?_)
        refine ol_if_ne (tgt := 89) C dX11_is_81 (by decide) (fun c_81 => ?_) (fun c_81 => by rw [c_19] at c_81; exact absurd (ol_k_2.mpr (by unfold ol_k; decide)) (ol_p_0.mp c_81))
        refine ol_iload C dX11_is_89 rfl ?_
        refine ol_if_eq (tgt := 98) C dX11_is_91 (by decide) (fun c_91 => ?_) (fun c_91 => absurd (show (0 : Int32) = 0 from rfl) c_91)
        refine ol_iconst (v := 0) C dX11_is_98 (by decide) ?_
        exact ol_iret C hret hlk rfl (by decide) (by decide) dX11_is_99 ⟨by unfold sp_is; rw [ol_if_t hK, nI_clamp hj31, ol_if_t c_19]; exact ol_pf (fun q => q ((ol_nIk (k := 2) s6 (by decide)).mp c_24)), rfl, rfl, rfl⟩
      · refine ol_iconst (v := 1) C dX11_is_27 (by decide) ?_
        refine ol_goto (tgt := 73) C dX11_is_28 (by decide) ?_
        refine ol_istore C dX11_is_73 (by decide) ?_
        refine ol_iload_n C dX11_is_75 rfl rfl ?_
        refine ol_iconst (v := 0) C dX11_is_76 (by decide) ?_
        refine ol_iconst (v := 2) C dX11_is_77 (by decide) ?_
        refine ol_callS C (mm_in l D cA f 0 2) wd_674 wd_4 wd_672 wd_673 mh_X11_in (by decide) rfl (by first | exact Nat.le_of_ble_eq_true rfl | simp [ol_rfc, Value.category]) dX11_is_78 (ol_xi ?_)
        refine ol_if_ne (tgt := 89) C dX11_is_81 (by decide) (fun c_81 => ?_) (fun c_81 => by rw [c_19] at c_81; exact absurd (ol_k_2.mpr (by unfold ol_k; decide)) (ol_p_0.mp c_81))
        refine ol_iload C dX11_is_89 rfl ?_
        refine ol_if_eq (tgt := 98) C dX11_is_91 (by decide) (fun c_91 => absurd c_91 (by decide)) (fun c_91 => ?_)
        refine ol_iconst (v := 1) C dX11_is_94 (by decide) ?_
        refine ol_goto (tgt := 99) C dX11_is_95 (by decide) ?_
        exact ol_iret C hret hlk rfl (by decide) (by decide) dX11_is_99 ⟨by unfold sp_is; rw [ol_if_t hK, nI_clamp hj31, ol_if_t c_19]; exact ol_pt (fun q => c_24 ((ol_nIk (k := 2) s6 (by decide)).mpr q)), rfl, rfl, rfl⟩
  · have hK := ol_p_0.mp c_5
    refine ol_ldc (v := (-1000001)) C wd_686 dX11_is_8 ?_
    exact ol_iret C hret hlk rfl (by decide) (by decide) dX11_is_10 ⟨by unfold sp_is; rw [ol_if_f hK], rfl, rfl, rfl⟩
end
section
set_option maxRecDepth 100000 in
set_option maxHeartbeats 4000000 in
theorem mm_arc (l : Launch) (D : va_G) (cA : Nat → ClassId) {ro : Nat → Nat} {I : Nat → Nat → Int32} {F : Nat → Nat → Option Nat} {ad : Nat → Nat} (hL : ol_L ro F ad) {w nn : Nat} (hw : I (ad 10) 12 = nI w) (hw2 : w < 2) (hnn : I (ad 31) w = nI nn) (h40 : nn ≤ 40) {fA : Nat → Nat} (hfa : ∀ j, j ≤ nn → I (ad 35) (41 * w + j) = nI (fA j)) (hmo : ∀ j, j < nn → fA j ≤ fA (j + 1)) (h240 : ∀ j, j ≤ nn → fA j ≤ 240) (t k v : Int32) : ol_M l D cA yX11_arc cX11_arc 5 (some FieldType.int) (ol_r 3 0 0) [.ref (ad 10), .int t, .int k, .int v] ro I F (ol_ei (ol_if (ol_k nn t ∧ ol_k (fA (t.toNatClampNeg + 1) - fA t.toNatClampNeg) k) (ol_if (v = 0) (I (ad 37) (240 * w + (fA t.toNatClampNeg + k.toNatClampNeg))) (ol_if (v = 1) (I (ad 38) (240 * w + (fA t.toNatClampNeg + k.toNatClampNeg))) (ol_if (v = 2) (ol_p (¬ I (ad 39) (240 * w + (fA t.toNatClampNeg + k.toNatClampNeg)) = 0)) (-1000002)))) (-1000001)) ro I F) := by
  refine ol_M.of (by decide +kernel) (Nat.le_of_ble_eq_true rfl) (by simp [Value.category, ol_rfc]) ?_
  intro p e s m args below meth c C hret hlk hin
  have hm : ol_is ro (ad 10) (.inl 9) := hL.is 10 (by decide) (by decide) rfl
  have f_firstArc : F (ad 10) 17 = some (ad 35) := hL.mf 17 35 (by decide)
  have i_firstArc : ol_is ro (ad 35) (.inr (0, 82)) := hL.is 35 (by decide) (by decide) rfl
  have f_arcTo : F (ad 10) 19 = some (ad 37) := hL.mf 19 37 (by decide)
  have i_arcTo : ol_is ro (ad 37) (.inr (0, 480)) := hL.is 37 (by decide) (by decide) rfl
  have f_arcWeight : F (ad 10) 20 = some (ad 38) := hL.mf 20 38 (by decide)
  have i_arcWeight : ol_is ro (ad 38) (.inr (0, 480)) := hL.is 38 (by decide) (by decide) rfl
  have f_arcBridge : F (ad 10) 21 = some (ad 39) := hL.mf 21 39 (by decide)
  have i_arcBridge : ol_is ro (ad 39) (.inr (1, 480)) := hL.is 39 (by decide) (by decide) rfl
  refine ol_aload_n C dX11_arc_0 rfl rfl (by first | exact ol_isq_r _ | exact ol_isq_q _ | exact ol_isq_n) ?_
  refine ol_iload_n C dX11_arc_1 rfl rfl ?_
  refine ol_callV C (mm_isNode l D cA hL hw hw2 hnn h40 t) hm.1 hm.2 rfl wd_766 wd_4 wd_763 wd_765 wq_22 mh_X11_isNode (by decide) rfl (by first | exact Nat.le_of_ble_eq_true rfl | simp [ol_rfc, Value.category]) dX11_arc_2 (ol_xi ?_)
  refine ol_if_eq (tgt := 23) C dX11_arc_5 (by decide) (fun c_5 => ?_) (fun c_5 => ?_)
  · have hC : ¬ (ol_k nn t ∧ ol_k (fA (t.toNatClampNeg + 1) - fA t.toNatClampNeg) k) := fun q => ol_p_0.mp c_5 q.1
    refine ol_ldc (v := (-1000001)) C wd_686 dX11_arc_23 ?_
    exact ol_iret C hret hlk rfl (by decide) (by decide) dX11_arc_25 ⟨by rw [ol_if_f hC], rfl, rfl, rfl⟩
  · have hK := ol_p_n.mp c_5
    obtain ⟨j, hj, rfl, hj31⟩ := ol_k_ix hK h40
    have hj40 : j < 40 := by omega
    have ej : (nI j).toNatClampNeg = j := nI_clamp hj31
    have m1 := hmo j hj
    have m2 := h240 (j + 1) (by omega)
    have ar : ol_if (ol_k nn (nI j)) (I (ad 35) (41 * w + (nI j).toNatClampNeg + 1) - I (ad 35) (41 * w + (nI j).toNatClampNeg)) (-1000001) = nI (fA (j + 1) - fA j) := by
      rw [ol_if_t hK, ej, Nat.add_assoc, hfa (j + 1) (by omega), hfa j (by omega)]
      exact pk_sub m1
    refine ol_iload_n C dX11_arc_8 rfl rfl ?_
    refine ol_iconst (v := 0) C dX11_arc_9 (by decide) ?_
    refine ol_aload_n C dX11_arc_10 rfl rfl (by first | exact ol_isq_r _ | exact ol_isq_q _ | exact ol_isq_n) ?_
    refine ol_iload_n C dX11_arc_11 rfl rfl ?_
    refine ol_callV C (mm_arcs l D cA hL hw hw2 hnn h40 (nI j)) hm.1 hm.2 rfl wd_774 wd_4 wd_779 wd_772 wd_773 mh_X11_arcs (by decide) rfl (by first | exact Nat.le_of_ble_eq_true rfl | simp [ol_rfc, Value.category]) dX11_arc_12 (ol_xi ?_)
    refine ol_ti ar ?_
    refine ol_iconst (v := 1) C dX11_arc_15 (by decide) ?_
    refine ol_isub C dX11_arc_16 ?_
    refine ol_callS C (mm_in l D cA k 0 (nI (fA (j + 1) - fA j) - 1)) wd_674 wd_4 wd_672 wd_673 mh_X11_in (by decide) rfl (by first | exact Nat.le_of_ble_eq_true rfl | simp [ol_rfc, Value.category]) dX11_arc_17 (ol_xi ?_)
    refine ol_if_ne (tgt := 26) C dX11_arc_20 (by decide) (fun c_20 => ?_) (fun c_20 => ?_)
    · have hk := (ol_k_m1 (by omega)).mp (ol_p_n.mp c_20)
      have hC : ol_k nn (nI j) ∧ ol_k (fA ((nI j).toNatClampNeg + 1) - fA (nI j).toNatClampNeg) k := ⟨hK, by rw [ej]; exact hk⟩
      obtain ⟨r, hr, e1, -, e2, -⟩ := pk_mu hk.1 hk.2 (by omega)
      have er : k.toNatClampNeg = r := e2
      refine ol_sipush (v := 240) C dX11_arc_26 (by decide) ?_
      refine ol_aload_n C dX11_arc_29 rfl rfl (by first | exact ol_isq_r _ | exact ol_isq_q _ | exact ol_isq_n) ?_
      refine ol_gI (k := 12) C (by assumption) rfl rfl wd_592 (.inl rfl) dX11_arc_30 ?_
      refine ol_imul C dX11_arc_33 ?_
      refine ol_aload_n C dX11_arc_34 rfl rfl (by first | exact ol_isq_r _ | exact ol_isq_q _ | exact ol_isq_n) ?_
      refine ol_gR (k := 17) C (by assumption) rfl rfl wd_597 (.inl rfl) dX11_arc_35 ?_
      refine ol_rf (by assumption) ?_
      refine ol_bipush (v := 41) C dX11_arc_38 (by decide) ?_
      refine ol_aload_n C dX11_arc_40 rfl rfl (by first | exact ol_isq_r _ | exact ol_isq_q _ | exact ol_isq_n) ?_
      refine ol_gI (k := 12) C (by assumption) rfl rfl wd_592 (.inl rfl) dX11_arc_41 ?_
      refine ol_imul C dX11_arc_44 ?_
      refine ol_iload_n C dX11_arc_45 rfl rfl ?_
      refine ol_iadd C dX11_arc_46 ?_
      refine ol_lI (41 * w + j) C (by assumption) (by rw [hw]; exact ol_ma rfl) (by omega) (by decide) dX11_arc_47 ?_
      refine ol_ti (hfa j (by omega)) ?_
      refine ol_iadd C dX11_arc_48 ?_
      refine ol_iload_n C dX11_arc_49 rfl rfl ?_
      refine ol_iadd C dX11_arc_50 ?_
      refine ol_ti (y := nI (240 * w + (fA j + r))) (by rw [hw, e1]; exact ol_maa rfl) ?_
      refine ol_istore C dX11_arc_51 (by decide) ?_
      refine ol_iload_n C dX11_arc_53 rfl rfl ?_
      refine ol_if_ne (tgt := 67) C dX11_arc_54 (by decide) (fun c_54 => ?_) (fun c_54 => ?_)
      · refine ol_iload_n C dX11_arc_67 rfl rfl ?_
        refine ol_iconst (v := 1) C dX11_arc_68 (by decide) ?_
        refine ol_icmp_ne (tgt := 82) C dX11_arc_69 (by decide) (fun c_69 => ?_) (fun c_69 => ?_)
        · refine ol_iload_n C dX11_arc_82 rfl rfl ?_
          refine ol_iconst (v := 2) C dX11_arc_83 (by decide) ?_
          refine ol_icmp_ne (tgt := 105) C dX11_arc_84 (by decide) (fun c_84 => ?_) (fun c_84 => ?_)
          · refine ol_ldc (v := (-1000002)) C wd_675 dX11_arc_105 ?_
            exact ol_iret C hret hlk rfl (by decide) (by decide) dX11_arc_107 ⟨by rw [ol_if_t hC, ej, er, ol_if_f c_54, ol_if_f c_69, ol_if_f c_84], rfl, rfl, rfl⟩
          · refine ol_aload_n C dX11_arc_87 rfl rfl (by first | exact ol_isq_r _ | exact ol_isq_q _ | exact ol_isq_n) ?_
            refine ol_gR (k := 21) C (by assumption) rfl rfl wd_601 (.inl rfl) dX11_arc_88 ?_
            refine ol_rf (by assumption) ?_
            refine ol_iload C dX11_arc_91 rfl ?_
            refine ol_lZ (240 * w + (fA j + r)) C (by assumption) rfl (by omega) (by decide) dX11_arc_93 ?_
            refine ol_if_eq (tgt := 101) C dX11_arc_94 (by decide) (fun c_94 => ?_) (fun c_94 => ?_)
            · refine ol_iconst (v := 0) C dX11_arc_101 (by decide) ?_
              refine ol_goto (tgt := 107) C dX11_arc_102 (by decide) ?_
              exact ol_iret C hret hlk rfl (by decide) (by decide) dX11_arc_107 ⟨by rw [ol_if_t hC, ej, er, ol_if_f c_54, ol_if_f c_69, ol_if_t c_84]; exact ol_pf (fun q => q c_94), rfl, rfl, rfl⟩
            · refine ol_iconst (v := 1) C dX11_arc_97 (by decide) ?_
              refine ol_goto (tgt := 107) C dX11_arc_98 (by decide) ?_
              exact ol_iret C hret hlk rfl (by decide) (by decide) dX11_arc_107 ⟨by rw [ol_if_t hC, ej, er, ol_if_f c_54, ol_if_f c_69, ol_if_t c_84]; exact ol_pt c_94, rfl, rfl, rfl⟩
        · refine ol_aload_n C dX11_arc_72 rfl rfl (by first | exact ol_isq_r _ | exact ol_isq_q _ | exact ol_isq_n) ?_
          refine ol_gR (k := 20) C (by assumption) rfl rfl wd_600 (.inl rfl) dX11_arc_73 ?_
          refine ol_rf (by assumption) ?_
          refine ol_iload C dX11_arc_76 rfl ?_
          refine ol_lI (240 * w + (fA j + r)) C (by assumption) rfl (by omega) (by decide) dX11_arc_78 ?_
          refine ol_goto (tgt := 107) C dX11_arc_79 (by decide) ?_
          exact ol_iret C hret hlk rfl (by decide) (by decide) dX11_arc_107 ⟨by rw [ol_if_t hC, ej, er, ol_if_f c_54, ol_if_t c_69], rfl, rfl, rfl⟩
      · refine ol_aload_n C dX11_arc_57 rfl rfl (by first | exact ol_isq_r _ | exact ol_isq_q _ | exact ol_isq_n) ?_
        refine ol_gR (k := 19) C (by assumption) rfl rfl wd_599 (.inl rfl) dX11_arc_58 ?_
        refine ol_rf (by assumption) ?_
        refine ol_iload C dX11_arc_61 rfl ?_
        refine ol_lI (240 * w + (fA j + r)) C (by assumption) rfl (by omega) (by decide) dX11_arc_63 ?_
        refine ol_goto (tgt := 107) C dX11_arc_64 (by decide) ?_
        exact ol_iret C hret hlk rfl (by decide) (by decide) dX11_arc_107 ⟨by rw [ol_if_t hC, ej, er, ol_if_t c_54], rfl, rfl, rfl⟩
    · have hC : ¬ (ol_k nn (nI j) ∧ ol_k (fA ((nI j).toNatClampNeg + 1) - fA (nI j).toNatClampNeg) k) := fun q => ol_p_0.mp c_20 ((ol_k_m1 (by omega)).mpr (by have := q.2; rw [ej] at this; exact this))
      refine ol_ldc (v := (-1000001)) C wd_686 dX11_arc_23 ?_
      exact ol_iret C hret hlk rfl (by decide) (by decide) dX11_arc_25 ⟨by rw [ol_if_f hC], rfl, rfl, rfl⟩

set_option maxRecDepth 100000 in
set_option maxHeartbeats 4000000 in
theorem lp_copy1 {p : Program} {l : Launch} {e : Env} {R : Room} {s : State} {m : MethodId} {args : Array Value} {below : List Frame} {meth : Method} {c : Code} {D : va_G} {cA : Nat → ClassId} {A : Nat → Prop} {Q : State → Prop} {ro : Nat → Nat} {F : Nat → Nat → Option Nat} {cells slots : Nat} (C : ol_Cx p s m args c cX11_copy 7 yX11_copy.cls D cA A) {ad : Nat → Nat} (hL : ol_L ro F ad) {I0 : Nat → Nat → Int32} {n : Nat} {So : Nat → Nat} {T : Nat → Nat → Int32} {P : Nat → Nat → Option Nat} (hT : ol_MT I0 ad n So T P) (hV : ol_V n So T P) {t u ka kb kn : Nat} (ht : t < n) (hu : u < n) (hka : ka + kn ≤ 6) (hkb : kb + kn ≤ 6) (hR1 : ol_rm R (ol_r 0 0 0) 2 cells slots) (ex : ∀ I : Nat → Nat → Int32, ol_sq ad I0 I → (∀ i, i < kn → I (ad 29) i = ol_e (P (1 + (ka + i)) t)) → ol_W p l e R s m args below meth c D cA A Q 7 ro I F cells slots 112 [some (.ref (ad 10)), some (.int (nI t)), some (.int (nI ka)), some (.int (nI u)), some (.int (nI kb)), some (.int (nI kn)), some (.int (nI kn))] []) : ∀ (d k : Nat) (I : Nat → Nat → Int32), k + d = kn → ol_sq ad I0 I → (∀ i, i < k → I (ad 29) i = ol_e (P (1 + (ka + i)) t)) → ol_W p l e R s m args below meth c D cA A Q 7 ro I F cells slots 78 [some (.ref (ad 10)), some (.int (nI t)), some (.int (nI ka)), some (.int (nI u)), some (.int (nI kb)), some (.int (nI kn)), some (.int (nI k))] [] := by
  have hm : ol_is ro (ad 10) (.inl 9) := hL.is 10 (by decide) (by decide) rfl
  have f_sorts : F (ad 10) 1 = some (ad 22) := hL.mf 1 22 (by decide)
  have i_sorts : ol_is ro (ad 22) (.inr (0, 40)) := hL.is 22 (by decide) (by decide) rfl
  have f_places : F (ad 10) 5 = some (ad 26) := hL.mf 5 26 (by decide)
  have i_places : ol_is ro (ad 26) (.inr (0, 240)) := hL.is 26 (by decide) (by decide) rfl
  have f_moved : F (ad 10) 8 = some (ad 29) := hL.mf 8 29 (by decide)
  have i_moved : ol_is ro (ad 29) (.inr (0, 6)) := hL.is 29 (by decide) (by decide) rfl
  have h40 := hV.1
  intro d
  induction d with
  | zero =>
    intro k I hk h1 h2
    have hk6 : k = kn := by omega
    subst hk6
    refine ol_iload C dX11_copy_78 rfl ?_
    refine ol_iload C dX11_copy_80 rfl ?_
    refine ol_icmp_ge (tgt := 112) C dX11_copy_82 (by decide) (fun c_82 => ?_) (fun c_82 => absurd (Int32.le_refl (nI k)) c_82)
    exact ex I h1 h2
  | succ d ih =>
    intro k I hk h1 h2
    have hk6 : k < kn := by omega
    have hv : I (ad 26) (6 * t + (ka + k)) = ol_e (P (1 + (ka + k)) t) := ((ol_MT.sq hL h1 hT).2 t ht).2.2.2.2.2.2 (ka + k) (by omega)
    refine ol_iload C dX11_copy_78 rfl ?_
    refine ol_iload C dX11_copy_80 rfl ?_
    refine ol_icmp_ge (tgt := 112) C dX11_copy_82 (by decide) (fun c_82 => absurd c_82 (nI_ge hk6 (by omega))) (fun c_82 => ?_)
    refine ol_aload_n C dX11_copy_85 rfl rfl (by first | exact ol_isq_r _ | exact ol_isq_q _ | exact ol_isq_n) ?_
    refine ol_gR (k := 8) C (by assumption) rfl rfl wd_588 (.inl rfl) dX11_copy_86 ?_
    refine ol_rf (by assumption) ?_
    refine ol_iload C dX11_copy_89 rfl ?_
    refine ol_aload_n C dX11_copy_91 rfl rfl (by first | exact ol_isq_r _ | exact ol_isq_q _ | exact ol_isq_n) ?_
    refine ol_gR (k := 5) C (by assumption) rfl rfl wd_585 (.inl rfl) dX11_copy_92 ?_
    refine ol_rf (by assumption) ?_
    refine ol_bipush (v := 6) C dX11_copy_95 (by decide) ?_
    refine ol_iload_n C dX11_copy_97 rfl rfl ?_
    refine ol_imul C dX11_copy_98 ?_
    refine ol_iload_n C dX11_copy_99 rfl rfl ?_
    refine ol_iadd C dX11_copy_100 ?_
    refine ol_iload C dX11_copy_101 rfl ?_
    refine ol_iadd C dX11_copy_103 ?_
    refine ol_lI (6 * t + (ka + k)) C (by assumption) (ol_maa rfl) (by omega) (by decide) dX11_copy_104 ?_
    refine ol_ti hv ?_
    refine ol_sI k C (by assumption) rfl (by omega) (by decide) dX11_copy_105 ?_
    refine ol_iincN C dX11_copy_106 rfl (by decide) ?_
    refine ol_goto (tgt := 78) C dX11_copy_109 (by decide) ?_
    refine ih (k + 1) _ (by omega) (h1.up _ (Or.inr (Or.inl rfl))) (fun i hi => ?_)
    by_cases e : i = k
    · subst e
      exact ol_u2_s _ _ _ _
    · rw [ol_u2_k I _ e]
      exact h2 i (by omega)

set_option maxRecDepth 100000 in
set_option maxHeartbeats 4000000 in
theorem lp_copy2 {p : Program} {l : Launch} {e : Env} {R : Room} {s : State} {m : MethodId} {args : Array Value} {below : List Frame} {meth : Method} {c : Code} {D : va_G} {cA : Nat → ClassId} {A : Nat → Prop} {Q : State → Prop} {ro : Nat → Nat} {F : Nat → Nat → Option Nat} {cells slots : Nat} (C : ol_Cx p s m args c cX11_copy 7 yX11_copy.cls D cA A) {ad : Nat → Nat} (hL : ol_L ro F ad) {I1 : Nat → Nat → Int32} {n : Nat} {So : Nat → Nat} {T : Nat → Nat → Int32} {P : Nat → Nat → Option Nat} (hT : ol_MT I1 ad n So T P) (hV : ol_V n So T P) {t u ka kb kn : Nat} (ht : t < n) (hu : u < n) (hka : ka + kn ≤ 6) (hkb : kb + kn ≤ 6) (hmv : ∀ i, i < kn → I1 (ad 29) i = ol_e (P (1 + (ka + i)) t)) (hR1 : ol_rm R (ol_r 0 0 0) 2 cells slots) (ex : ∀ I : Nat → Nat → Int32, ol_cp So P t ka u kn kn → (∀ a, a ≠ ad 26 → I a = I1 a) → (∀ i, i < kn → I (ad 26) (6 * u + (kb + i)) = ol_e (P (1 + (ka + i)) t)) → (∀ j, (∀ i, i < kn → j ≠ 6 * u + (kb + i)) → I (ad 26) j = I1 (ad 26) j) → ol_W p l e R s m args below meth c D cA A Q 7 ro I F cells slots 177 [some (.ref (ad 10)), some (.int (nI t)), some (.int (nI ka)), some (.int (nI u)), some (.int (nI kb)), some (.int (nI kn)), some (.int (nI kn))] []) (ex2 : ∀ (I : Nat → Nat → Int32) (k : Nat), k < kn → ol_cp So P t ka u kn k → (∀ a, a ≠ ad 26 → I a = I1 a) → (∀ i, i < k → I (ad 26) (6 * u + (kb + i)) = ol_e (P (1 + (ka + i)) t)) → (∀ j, (∀ i, i < k → j ≠ 6 * u + (kb + i)) → I (ad 26) j = I1 (ad 26) j) → ol_W p l e R s m args below meth c D cA A Q 7 ro I F cells slots 146 [some (.ref (ad 10)), some (.int (nI t)), some (.int (nI ka)), some (.int (nI u)), some (.int (nI kb)), some (.int (nI kn)), some (.int (nI k))] []) : ∀ (d k : Nat) (I : Nat → Nat → Int32), k + d = kn → (∀ i, i < k → ¬ (So u = 4 ∧ ol_br So (P (1 + (ka + i)) t))) → (∀ a, a ≠ ad 26 → I a = I1 a) → (∀ i, i < k → I (ad 26) (6 * u + (kb + i)) = ol_e (P (1 + (ka + i)) t)) → (∀ j, (∀ i, i < k → j ≠ 6 * u + (kb + i)) → I (ad 26) j = I1 (ad 26) j) → ol_W p l e R s m args below meth c D cA A Q 7 ro I F cells slots 115 [some (.ref (ad 10)), some (.int (nI t)), some (.int (nI ka)), some (.int (nI u)), some (.int (nI kb)), some (.int (nI kn)), some (.int (nI k))] [] := by
  have hm : ol_is ro (ad 10) (.inl 9) := hL.is 10 (by decide) (by decide) rfl
  have f_sorts : F (ad 10) 1 = some (ad 22) := hL.mf 1 22 (by decide)
  have i_sorts : ol_is ro (ad 22) (.inr (0, 40)) := hL.is 22 (by decide) (by decide) rfl
  have f_places : F (ad 10) 5 = some (ad 26) := hL.mf 5 26 (by decide)
  have i_places : ol_is ro (ad 26) (.inr (0, 240)) := hL.is 26 (by decide) (by decide) rfl
  have f_moved : F (ad 10) 8 = some (ad 29) := hL.mf 8 29 (by decide)
  have i_moved : ol_is ro (ad 29) (.inr (0, 6)) := hL.is 29 (by decide) (by decide) rfl
  have h40 := hV.1
  have n22_26 : ad 22 ≠ ad 26 := hL.ne (by decide) (by decide) (by decide)
  have n29_26 : ad 29 ≠ ad 26 := hL.ne (by decide) (by decide) (by decide)
  intro d
  induction d with
  | zero =>
    intro k I hk h0 h1 h2 h3
    have hk6 : k = kn := by omega
    subst hk6
    refine ol_iload C dX11_copy_115 rfl ?_
    refine ol_iload C dX11_copy_117 rfl ?_
    refine ol_icmp_ge (tgt := 177) C dX11_copy_119 (by decide) (fun c_119 => ?_) (fun c_119 => absurd (Int32.le_refl (nI k)) c_119)
    exact ex I ⟨Nat.le_refl _, h0, fun q => absurd q (Nat.lt_irrefl _)⟩ h1 h2 h3
  | succ d ih =>
    intro k I hk h0 h1 h2 h3
    have hk6 : k < kn := by omega
    have es : I (ad 22) u = nI (So u) := (congrFun (h1 _ n22_26) u).trans (hT.2 u hu).1
    have em : I (ad 29) k = ol_e (P (1 + (ka + k)) t) := (congrFun (h1 _ n29_26) k).trans (hmv k hk6)
    have hTs : ∀ q : Option Nat, (∀ w, q = some w → w < n) → ((∃ w, q = some w ∧ I (ad 22) w = 2) ↔ ol_br So q) := by
      intro q hq
      rw [h1 _ n22_26]
      exact ol_brI hT hV hq
    have hq := (hV.2 t ht).2.2 (1 + (ka + k)) (by omega)
    have hB := mm_isBridge l D cA (I := I) hL hV.1 hq
    rw [ol_p_c (hTs _ hq)] at hB
    refine ol_iload C dX11_copy_115 rfl ?_
    refine ol_iload C dX11_copy_117 rfl ?_
    refine ol_icmp_ge (tgt := 177) C dX11_copy_119 (by decide) (fun c_119 => absurd c_119 (nI_ge hk6 (by omega))) (fun c_119 => ?_)
    refine ol_aload_n C dX11_copy_122 rfl rfl (by first | exact ol_isq_r _ | exact ol_isq_q _ | exact ol_isq_n) ?_
    refine ol_gR (k := 1) C (by assumption) rfl rfl wd_581 (.inl rfl) dX11_copy_123 ?_
    refine ol_rf (by assumption) ?_
    refine ol_iload_n C dX11_copy_126 rfl rfl ?_
    refine ol_lI u C (by assumption) rfl (by omega) (by decide) dX11_copy_127 ?_
    refine ol_ti es ?_
    refine ol_iconst (v := 4) C dX11_copy_128 (by decide) ?_
    refine ol_icmp_ne (tgt := 149) C dX11_copy_129 (by decide) (fun c_129 => ?_) (fun c_129 => ?_)
    · refine ol_aload_n C dX11_copy_149 rfl rfl (by first | exact ol_isq_r _ | exact ol_isq_q _ | exact ol_isq_n) ?_
      refine ol_gR (k := 5) C (by assumption) rfl rfl wd_585 (.inl rfl) dX11_copy_150 ?_
      refine ol_rf (by assumption) ?_
      refine ol_bipush (v := 6) C dX11_copy_153 (by decide) ?_
      refine ol_iload_n C dX11_copy_155 rfl rfl ?_
      refine ol_imul C dX11_copy_156 ?_
      refine ol_iload C dX11_copy_157 rfl ?_
      refine ol_iadd C dX11_copy_159 ?_
      refine ol_iload C dX11_copy_160 rfl ?_
      refine ol_iadd C dX11_copy_162 ?_
      refine ol_aload_n C dX11_copy_163 rfl rfl (by first | exact ol_isq_r _ | exact ol_isq_q _ | exact ol_isq_n) ?_
      refine ol_gR (k := 8) C (by assumption) rfl rfl wd_588 (.inl rfl) dX11_copy_164 ?_
      refine ol_rf (by assumption) ?_
      refine ol_iload C dX11_copy_167 rfl ?_
      refine ol_lI k C (by assumption) rfl (by omega) (by decide) dX11_copy_169 ?_
      refine ol_ti em ?_
      refine ol_sI (6 * u + (kb + k)) C (by assumption) (ol_maa rfl) (by omega) (by decide) dX11_copy_170 ?_
      refine ol_iincN C dX11_copy_171 rfl (by decide) ?_
      refine ol_goto (tgt := 115) C dX11_copy_174 (by decide) ?_
      have hnb : ¬ (So u = 4 ∧ ol_br So (P (1 + (ka + k)) t)) := fun q => c_129 (by rw [q.1]; rfl)
      refine ih (k + 1) _ (by omega) (fun i hi => ?_) (fun a ha => (ol_u2_a I _ ha).trans (h1 a ha)) (fun i hi => ?_) (fun j hj => ?_)
      · by_cases e : i = k
        · subst e
          exact hnb
        · exact h0 i (by omega)
      · by_cases e : i = k
        · subst e
          exact ol_u2_s _ _ _ _
        · rw [ol_u2_k I _ (by omega)]
          exact h2 i (by omega)
      · rw [ol_u2_k I _ (hj k (by omega))]
        exact h3 j (fun i hi => hj i (by omega))
    · refine ol_aload_n C dX11_copy_132 rfl rfl (by first | exact ol_isq_r _ | exact ol_isq_q _ | exact ol_isq_n) ?_
      refine ol_aload_n C dX11_copy_133 rfl rfl (by first | exact ol_isq_r _ | exact ol_isq_q _ | exact ol_isq_n) ?_
      refine ol_gR (k := 8) C (by assumption) rfl rfl wd_588 (.inl rfl) dX11_copy_134 ?_
      refine ol_rf (by assumption) ?_
      refine ol_iload C dX11_copy_137 rfl ?_
      refine ol_lI k C (by assumption) rfl (by omega) (by decide) dX11_copy_139 ?_
      refine ol_ti em ?_
      refine ol_callV C hB hm.1 hm.2 rfl wd_711 wd_4 wd_708 wd_710 wq_13 mh_X11_isBridge hR1 rfl (by first | exact Nat.le_of_ble_eq_true rfl | simp [ol_rfc, Value.category]) dX11_copy_140 (ol_xi ?_)
      refine ol_if_eq (tgt := 149) C dX11_copy_143 (by decide) (fun c_143 => ?_) (fun c_143 => ?_)
      · refine ol_aload_n C dX11_copy_149 rfl rfl (by first | exact ol_isq_r _ | exact ol_isq_q _ | exact ol_isq_n) ?_
        refine ol_gR (k := 5) C (by assumption) rfl rfl wd_585 (.inl rfl) dX11_copy_150 ?_
        refine ol_rf (by assumption) ?_
        refine ol_bipush (v := 6) C dX11_copy_153 (by decide) ?_
        refine ol_iload_n C dX11_copy_155 rfl rfl ?_
        refine ol_imul C dX11_copy_156 ?_
        refine ol_iload C dX11_copy_157 rfl ?_
        refine ol_iadd C dX11_copy_159 ?_
        refine ol_iload C dX11_copy_160 rfl ?_
        refine ol_iadd C dX11_copy_162 ?_
        refine ol_aload_n C dX11_copy_163 rfl rfl (by first | exact ol_isq_r _ | exact ol_isq_q _ | exact ol_isq_n) ?_
        refine ol_gR (k := 8) C (by assumption) rfl rfl wd_588 (.inl rfl) dX11_copy_164 ?_
        refine ol_rf (by assumption) ?_
        refine ol_iload C dX11_copy_167 rfl ?_
        refine ol_lI k C (by assumption) rfl (by omega) (by decide) dX11_copy_169 ?_
        refine ol_ti em ?_
        refine ol_sI (6 * u + (kb + k)) C (by assumption) (ol_maa rfl) (by omega) (by decide) dX11_copy_170 ?_
        refine ol_iincN C dX11_copy_171 rfl (by decide) ?_
        refine ol_goto (tgt := 115) C dX11_copy_174 (by decide) ?_
        have hnb : ¬ (So u = 4 ∧ ol_br So (P (1 + (ka + k)) t)) := fun q => ol_p_0.mp c_143 q.2
        refine ih (k + 1) _ (by omega) (fun i hi => ?_) (fun a ha => (ol_u2_a I _ ha).trans (h1 a ha)) (fun i hi => ?_) (fun j hj => ?_)
        · by_cases e : i = k
          · subst e
            exact hnb
          · exact h0 i (by omega)
        · by_cases e : i = k
          · subst e
            exact ol_u2_s _ _ _ _
          · rw [ol_u2_k I _ (by omega)]
            exact h2 i (by omega)
        · rw [ol_u2_k I _ (hj k (by omega))]
          exact h3 j (fun i hi => hj i (by omega))
      · exact ex2 I k hk6 ⟨by omega, h0, fun _ => ⟨(ol_nIk (k := 4) (hV.2 u hu).1 (by decide)).mp c_129, ol_p_n.mp c_143⟩⟩ h1 h2 h3

set_option maxRecDepth 100000 in
set_option maxHeartbeats 4000000 in
theorem mm_copy (l : Launch) (D : va_G) (cA : Nat → ClassId) {ro : Nat → Nat} {I : Nat → Nat → Int32} {F : Nat → Nat → Option Nat} {ad : Nat → Nat} (hL : ol_L ro F ad) {n : Nat} {So : Nat → Nat} {T : Nat → Nat → Int32} {P : Nat → Nat → Option Nat} (hT : ol_MT I ad n So T P) (hV : ol_V n So T P) (t a u b k : Int32) : ol_M l D cA yX11_copy cX11_copy 7 (some FieldType.int) (ol_r 2 0 0) [.ref (ad 10), .int t, .int a, .int u, .int b, .int k] ro I F (fun v ro' I' F' => ro' = ro ∧ F' = F ∧ ((¬ (ol_k n t ∧ ol_k n u) ∧ v = some (.int (-1000001)) ∧ I' = I) ∨ ((ol_k n t ∧ ol_k n u) ∧ ¬ (ol_stt a k ∧ ol_stt b k) ∧ v = some (.int (-1000012)) ∧ I' = I) ∨ ∃ (jt ju ka kb kn m : Nat) (I1 : Nat → Nat → Int32), t = nI jt ∧ u = nI ju ∧ jt < n ∧ ju < n ∧ a = nI ka ∧ b = nI kb ∧ k = nI kn ∧ ka + kn ≤ 6 ∧ kb + kn ≤ 6 ∧ ol_cp So P jt ka ju kn m ∧ v = some (.int (ol_if (m < kn) (-1000015) 1)) ∧ ol_sq ad I I1 ∧ (∀ a, a ≠ ad 26 → I' a = I1 a) ∧ (∀ i, i < m → I' (ad 26) (6 * ju + (kb + i)) = ol_e (P (1 + (ka + i)) jt)) ∧ ∀ j, (∀ i, i < m → j ≠ 6 * ju + (kb + i)) → I' (ad 26) j = I1 (ad 26) j)) := by
  refine ol_M.of (by decide +kernel) (Nat.le_of_ble_eq_true rfl) (by simp [Value.category, ol_rfc]) ?_
  intro p e s m args below meth c C hret hlk hin
  have hm : ol_is ro (ad 10) (.inl 9) := hL.is 10 (by decide) (by decide) rfl
  have f_sorts : F (ad 10) 1 = some (ad 22) := hL.mf 1 22 (by decide)
  have i_sorts : ol_is ro (ad 22) (.inr (0, 40)) := hL.is 22 (by decide) (by decide) rfl
  have f_places : F (ad 10) 5 = some (ad 26) := hL.mf 5 26 (by decide)
  have i_places : ol_is ro (ad 26) (.inr (0, 240)) := hL.is 26 (by decide) (by decide) rfl
  have f_moved : F (ad 10) 8 = some (ad 29) := hL.mf 8 29 (by decide)
  have i_moved : ol_is ro (ad 29) (.inr (0, 6)) := hL.is 29 (by decide) (by decide) rfl
  have h40 := hV.1
  have hn := hT.1
  refine ol_aload_n C dX11_copy_0 rfl rfl (by first | exact ol_isq_r _ | exact ol_isq_q _ | exact ol_isq_n) ?_
  refine ol_iload_n C dX11_copy_1 rfl rfl ?_
  refine ol_callV C (mm_isThing l D cA hL hn h40 t) hm.1 hm.2 rfl wd_685 wd_4 wd_682 wd_684 wq_12 mh_X11_isThing (by decide) rfl (by first | exact Nat.le_of_ble_eq_true rfl | simp [ol_rfc, Value.category]) dX11_copy_2 (ol_xi ?_)
  refine ol_if_eq (tgt := 16) C dX11_copy_5 (by decide) (fun c_5 => ?_) (fun c_5 => ?_)
  · have hKK : ¬ (ol_k n t ∧ ol_k n u) := fun q => ol_p_0.mp c_5 q.1
    refine ol_ldc (v := (-1000001)) C wd_686 dX11_copy_16 ?_
    exact ol_iret C hret hlk rfl (by decide) (by decide) dX11_copy_18 ⟨rfl, rfl, Or.inl ⟨hKK, rfl, rfl⟩⟩
  · refine ol_aload_n C dX11_copy_8 rfl rfl (by first | exact ol_isq_r _ | exact ol_isq_q _ | exact ol_isq_n) ?_
    refine ol_iload_n C dX11_copy_9 rfl rfl ?_
    refine ol_callV C (mm_isThing l D cA hL hn h40 u) hm.1 hm.2 rfl wd_685 wd_4 wd_682 wd_684 wq_12 mh_X11_isThing (by decide) rfl (by first | exact Nat.le_of_ble_eq_true rfl | simp [ol_rfc, Value.category]) dX11_copy_10 (ol_xi ?_)
    refine ol_if_ne (tgt := 19) C dX11_copy_13 (by decide) (fun c_13 => ?_) (fun c_13 => ?_)
    · have hKK : ol_k n t ∧ ol_k n u := ⟨ol_p_n.mp c_5, ol_p_n.mp c_13⟩
      refine ol_iload_n C dX11_copy_19 rfl rfl ?_
      refine ol_if_lt (tgt := 72) C dX11_copy_20 (by decide) (fun c_20 => ?_) (fun c_20 => ?_)
      · refine ol_ldc (v := (-1000012)) C wd_707 dX11_copy_72 ?_
        exact ol_iret C hret hlk rfl (by decide) (by decide) dX11_copy_74 ⟨rfl, rfl, Or.inr (Or.inl ⟨hKK, fun q => (ol_stt_ge q.1).1 c_20, rfl, rfl⟩)⟩
      · refine ol_iload C dX11_copy_23 rfl ?_
        refine ol_if_lt (tgt := 72) C dX11_copy_25 (by decide) (fun c_25 => ?_) (fun c_25 => ?_)
        · refine ol_ldc (v := (-1000012)) C wd_707 dX11_copy_72 ?_
          exact ol_iret C hret hlk rfl (by decide) (by decide) dX11_copy_74 ⟨rfl, rfl, Or.inr (Or.inl ⟨hKK, fun q => (ol_stt_ge q.2).1 c_25, rfl, rfl⟩)⟩
        · refine ol_iload C dX11_copy_28 rfl ?_
          refine ol_if_lt (tgt := 72) C dX11_copy_30 (by decide) (fun c_30 => ?_) (fun c_30 => ?_)
          · refine ol_ldc (v := (-1000012)) C wd_707 dX11_copy_72 ?_
            exact ol_iret C hret hlk rfl (by decide) (by decide) dX11_copy_74 ⟨rfl, rfl, Or.inr (Or.inl ⟨hKK, fun q => (ol_stt_ge q.1).2.1 c_30, rfl, rfl⟩)⟩
          · refine ol_iload_n C dX11_copy_33 rfl rfl ?_
            refine ol_bipush (v := 6) C dX11_copy_34 (by decide) ?_
            refine ol_icmp_gt (tgt := 72) C dX11_copy_36 (by decide) (fun c_36 => ?_) (fun c_36 => ?_)
            · refine ol_ldc (v := (-1000012)) C wd_707 dX11_copy_72 ?_
              exact ol_iret C hret hlk rfl (by decide) (by decide) dX11_copy_74 ⟨rfl, rfl, Or.inr (Or.inl ⟨hKK, fun q => (ol_stt_ge q.1).2.2.1 c_36, rfl, rfl⟩)⟩
            · refine ol_iload C dX11_copy_39 rfl ?_
              refine ol_bipush (v := 6) C dX11_copy_41 (by decide) ?_
              refine ol_icmp_gt (tgt := 72) C dX11_copy_43 (by decide) (fun c_43 => ?_) (fun c_43 => ?_)
              · refine ol_ldc (v := (-1000012)) C wd_707 dX11_copy_72 ?_
                exact ol_iret C hret hlk rfl (by decide) (by decide) dX11_copy_74 ⟨rfl, rfl, Or.inr (Or.inl ⟨hKK, fun q => (ol_stt_ge q.2).2.2.1 c_43, rfl, rfl⟩)⟩
              · refine ol_iload C dX11_copy_46 rfl ?_
                refine ol_bipush (v := 6) C dX11_copy_48 (by decide) ?_
                refine ol_icmp_gt (tgt := 72) C dX11_copy_50 (by decide) (fun c_50 => ?_) (fun c_50 => ?_)
                · refine ol_ldc (v := (-1000012)) C wd_707 dX11_copy_72 ?_
                  exact ol_iret C hret hlk rfl (by decide) (by decide) dX11_copy_74 ⟨rfl, rfl, Or.inr (Or.inl ⟨hKK, fun q => (ol_stt_ge q.1).2.2.2.1 c_50, rfl, rfl⟩)⟩
                · refine ol_iload_n C dX11_copy_53 rfl rfl ?_
                  refine ol_iload C dX11_copy_54 rfl ?_
                  refine ol_iadd C dX11_copy_56 ?_
                  refine ol_bipush (v := 6) C dX11_copy_57 (by decide) ?_
                  refine ol_icmp_gt (tgt := 72) C dX11_copy_59 (by decide) (fun c_59 => ?_) (fun c_59 => ?_)
                  · refine ol_ldc (v := (-1000012)) C wd_707 dX11_copy_72 ?_
                    exact ol_iret C hret hlk rfl (by decide) (by decide) dX11_copy_74 ⟨rfl, rfl, Or.inr (Or.inl ⟨hKK, fun q => (ol_stt_ge q.1).2.2.2.2 c_59, rfl, rfl⟩)⟩
                  · refine ol_iload C dX11_copy_62 rfl ?_
                    refine ol_iload C dX11_copy_64 rfl ?_
                    refine ol_iadd C dX11_copy_66 ?_
                    refine ol_bipush (v := 6) C dX11_copy_67 (by decide) ?_
                    refine ol_icmp_le (tgt := 75) C dX11_copy_69 (by decide) (fun c_69 => ?_) (fun c_69 => ?_)
                    · have hsa : ol_stt a k := ol_stt_of c_20 c_30 c_36 c_50 c_59
                      have hsb : ol_stt b k := ol_stt_of c_25 c_30 c_43 c_50 (ol_le_nlt c_69)
                      obtain ⟨jt, hjt, rfl, -⟩ := ol_k_ix hKK.1 h40
                      obtain ⟨ju, hju, rfl, -⟩ := ol_k_ix hKK.2 h40
                      refine ol_iconst (v := 0) C dX11_copy_75 (by decide) ?_
                      refine ol_istore C dX11_copy_76 (by decide) ?_
                      obtain ⟨ka, kn, rfl, rfl, hka⟩ := hsa
                      obtain ⟨kb, kn2, rfl, en, hkb⟩ := hsb
                      have en2 : kn = kn2 := (nI_eq (by omega) (by omega)).mp en
                      subst en2
                      have hTj := hT
                      refine lp_copy1 C hL hT hV hjt hju hka hkb (by decide) (fun I1 x1 x2 => ?_) kn 0 _ (by omega) (ol_sq_rf ad I) (fun i hi => absurd hi (by omega))
                      refine ol_iconst (v := 0) C dX11_copy_112 (by decide) ?_
                      refine ol_istore C dX11_copy_113 (by decide) ?_
                      refine lp_copy2 C hL (ol_MT.sq hL x1 hT) hV hjt hju hka hkb x2 (by decide) (fun I2 cp y1 y2 y3 => ?_) (fun I2 m hm2 cp y1 y2 y3 => ?_) kn 0 _ (by omega) (fun i hi => absurd hi (by omega)) (fun _ _ => rfl) (fun i hi => absurd hi (by omega)) (fun _ _ => rfl)
                      · refine ol_iconst (v := 1) C dX11_copy_177 (by decide) ?_
                        exact ol_iret C hret hlk rfl (by decide) (by decide) dX11_copy_178 ⟨rfl, rfl, Or.inr (Or.inr ⟨jt, ju, ka, kb, kn, kn, I1, rfl, rfl, hjt, hju, rfl, rfl, rfl, hka, hkb, cp, by rw [ol_if_f (Nat.lt_irrefl _)], x1, y1, y2, y3⟩)⟩
                      · refine ol_ldc (v := (-1000015)) C wd_712 dX11_copy_146 ?_
                        exact ol_iret C hret hlk rfl (by decide) (by decide) dX11_copy_148 ⟨rfl, rfl, Or.inr (Or.inr ⟨jt, ju, ka, kb, kn, m, I1, rfl, rfl, hjt, hju, rfl, rfl, rfl, hka, hkb, cp, by rw [ol_if_t hm2], x1, y1, y2, y3⟩)⟩
                    · refine ol_ldc (v := (-1000012)) C wd_707 dX11_copy_72 ?_
                      exact ol_iret C hret hlk rfl (by decide) (by decide) dX11_copy_74 ⟨rfl, rfl, Or.inr (Or.inl ⟨hKK, fun q => (ol_stt_ge q.2).2.2.2.2 (ol_nle_lt c_69), rfl, rfl⟩)⟩
    · have hKK : ¬ (ol_k n t ∧ ol_k n u) := fun q => ol_p_0.mp c_13 q.2
      refine ol_ldc (v := (-1000001)) C wd_686 dX11_copy_16 ?_
      exact ol_iret C hret hlk rfl (by decide) (by decide) dX11_copy_18 ⟨rfl, rfl, Or.inl ⟨hKK, rfl, rfl⟩⟩
end
section
theorem ol_M.mono {l : Launch} {D : va_G} {cA : Nat → ClassId} {y : MethodName} {b : ByteArray} {n : Nat} {ret : Option FieldType} {rm : Room} {av : List Value} {ro : Nat → Nat} {I : Nat → Nat → Int32} {F : Nat → Nat → Option Nat} {post post' : Option Value → (Nat → Nat) → (Nat → Nat → Int32) → (Nat → Nat → Option Nat) → Prop} (h : ol_M l D cA y b n ret rm av ro I F post) (hp : ∀ v ro' I' F', post v ro' I' F' → post' v ro' I' F') : ol_M l D cA y b n ret rm av ro I F post' := by
  intro sz p e h1 h2 h3 s m args below h4 h5 h6 h7
  obtain ⟨k, o, g1, g2, g3, ⟨⟨v, ro', I', F', q1, q2, q3⟩, q4⟩, g5⟩ := h sz p e h1 h2 h3 s m args below h4 h5 h6 h7
  exact ⟨k, o, g1, g2, g3, ⟨⟨v, ro', I', F', q1, hp v ro' I' F' q2, q3⟩, q4⟩, g5⟩
/-- while slot g is being loaded: I0 the memory at the beginning -/
def ol_LI (ad : Nat → Nat) (g n : Nat) (So : Nat → Nat) (T : Nat → Nat → Int32) (P : Nat → Nat → Option Nat) (I0 I : Nat → Nat → Int32) (b : ol_B) (kc kf : Nat) : Prop := ol_MT I ad n So (va_up T 4 b.1) P ∧ ol_MG (ol_vf I ad) g b kc kf ∧ ol_fm ad g I0 I
theorem ol_LI.off41 {ro : Nat → Nat} {F : Nat → Nat → Option Nat} {ad : Nat → Nat} {g n : Nat} {So : Nat → Nat} {T : Nat → Nat → Int32} {P : Nat → Nat → Option Nat} {I0 I : Nat → Nat → Int32} {b : ol_B} {kc kf : Nat} (hL : ol_L ro F ad) (h : ol_LI ad g n So T P I0 I b kc kf) (k : Nat) (v : Int32) : ol_LI ad g n So T P I0 (ol_u2 I (ad 41) k v) b kc kf := by
  refine ⟨ol_MT.off hL h.1 _ _ (by decide) (by decide), ol_MG.vu hL (by decide) (h.2.1.congr (fun r hr => ?_)), h.2.2.up _ (Or.inl (Or.inr rfl))⟩
  have h2 : r ≠ 41 := by
    revert r
    decide
  exact ol_u2_a _ _ h2
section OLLI
variable {ro : Nat → Nat} {F : Nat → Nat → Option Nat} {ad : Nat → Nat} {g n : Nat} {So : Nat → Nat} {T : Nat → Nat → Int32} {P : Nat → Nat → Option Nat} {I0 I : Nat → Nat → Int32} {b : ol_B} {kc kf : Nat}
theorem ol_LI.sq {I' : Nat → Nat → Int32} (hL : ol_L ro F ad) (h : ol_LI ad g n So T P I0 I b kc kf) (hs : ol_sq ad I I') : ol_LI ad g n So T P I0 I' b kc kf := by
  refine ⟨ol_MT.sq hL hs h.1, h.2.1.congr (fun r hr => funext fun k => ?_), h.2.2.sq hs⟩
  have h2 : r ∈ ol_uq ∧ r ≠ 10 ∧ r ≠ 29 ∧ r ≠ 30 := by
    revert r
    decide
  exact hs.row hL r k h2.1 h2.2.1 h2.2.2.1 h2.2.2.2
theorem ol_LI.ask (hL : ol_L ro F ad) (h : ol_LI ad g n So T P I0 I b kc kf) (u : Nat) : ol_LI ad g n So T P I0 (ol_u2 I (ad 28) u (b.1 u + 1)) (sp_ask b u) kc kf := by
  refine ⟨ol_MT.ask hL h.1 u, ol_MG.vu hL (by decide) ((h.2.1.congr (fun r hr => ?_)).ask u), h.2.2.up _ (ol_tg_asked ad g u)⟩
  have h2 : r ≠ 28 := by
    revert r
    decide
  exact ol_u2_a _ _ h2
theorem ol_LI.asked (h : ol_LI ad g n So T P I0 I b kc kf) {u : Nat} (hu : u < n) : I (ad 28) u = b.1 u := by
  have := (h.1.2 u hu).2.2.2.2.1
  rw [va_up_self] at this
  exact this
theorem ol_LI.hole (hL : ol_L ro F ad) (h : ol_LI ad g n So T P I0 I b kc kf) : ol_LI ad g n So T P I0 (ol_u2 I (ad 40) g (nI (b.2.1 0 2 + 1))) (sp_hole b) kc kf :=
  ⟨ol_MT.off hL h.1 _ _ (by decide) (by decide), ol_MG.vu hL (by decide) h.2.1.hole, h.2.2.up _ (ol_tg_holes ad g)⟩
theorem ol_LI.findN (hL : ol_L ro F ad) (h : ol_LI ad g n So T P I0 I b kc kf) {u : Nat} (hu : u < 40) (hk : b.2.1 0 0 < 40) (ho : b.2.2.2 u = none) : ol_LI ad g n So T P I0 (ol_u2 (ol_u2 (ol_u2 I (ad 33) (40 * g + u) (nI (b.2.1 0 0))) (ad 32) (40 * g + b.2.1 0 0) (nI u)) (ad 31) g (nI (b.2.1 0 0 + 1))) (sp_find b u) kc kf := by
  have e1 : (sp_find b u).1 = b.1 := by
    unfold sp_find
    rw [ho]
  refine ⟨by rw [e1]; exact ol_MT.off hL (ol_MT.off hL (ol_MT.off hL h.1 _ _ (by decide) (by decide)) _ _ (by decide) (by decide)) _ _ (by decide) (by decide), ?_, ((h.2.2.up _ (ol_tg_33 ad g hu)).up _ (ol_tg_32 ad g hk)).up _ (ol_tg_nodes ad g)⟩
  have R : ∀ r ∈ [31, 32, 33, 34, 35, 36, 37, 38, 39, 40], r ∈ ol_uq := by decide
  refine ol_MG.congr (fun r hr => ?_) (h.2.1.findN ho).1
  rw [ol_vu hL _ _ _ (by decide) (R r hr)]
  refine ol_u2_cg (R := [31, 32, 33, 34, 35, 36, 37, 38, 39, 40]) (fun r hr => ?_) _ _ _ r hr
  rw [ol_vu hL _ _ _ (by decide) (R r hr)]
  refine ol_u2_cg (R := [31, 32, 33, 34, 35, 36, 37, 38, 39, 40]) (fun r hr => ?_) _ _ _ r hr
  exact ol_vu hL _ _ _ (by decide) (R r hr)
theorem sp_find_1 (b : ol_B) (u : Nat) : (sp_find b u).1 = b.1 ∧ (sp_find b u).2.2.1 = b.2.2.1 ∧ (sp_find b u).2.1 0 1 = b.2.1 0 1 := by
  unfold sp_find
  cases b.2.2.2 u with
  | some k => exact ⟨rfl, rfl, rfl⟩
  | none => exact ⟨rfl, rfl, by show ol_u2 (ol_u2 b.2.1 1 (b.2.1 0 0) u) 0 0 (b.2.1 0 0 + 1) 0 1 = _; rw [ol_u2_k _ _ (by decide), ol_u2_a _ _ (by decide)]⟩
theorem ol_LI.arc (hL : ol_L ro F ad) {u : Nat} (w br : Int32) (h : ol_LI ad g n So T P I0 I (sp_find b u) kc kf) (ha : b.2.1 0 1 < 240) : ol_LI ad g n So T P I0 (ol_u2 (ol_u2 (ol_u2 (ol_u2 I (ad 37) (240 * g + b.2.1 0 1) (nI (sp_no b u))) (ad 38) (240 * g + b.2.1 0 1) w) (ad 39) (240 * g + b.2.1 0 1) br) (ad 36) g (nI (b.2.1 0 1 + 1))) (sp_arc b u w br) kc kf := by
  obtain ⟨f1, f2, f3⟩ := sp_find_1 b u
  refine ⟨ol_MT.off hL (ol_MT.off hL (ol_MT.off hL (ol_MT.off hL h.1 _ _ (by decide) (by decide)) _ _ (by decide) (by decide)) _ _ (by decide) (by decide)) _ _ (by decide) (by decide), ?_, (((h.2.2.up _ (ol_tg_37 g (Or.inl rfl) ha)).up _ (ol_tg_37 g (Or.inr (Or.inl rfl)) ha)).up _ (ol_tg_37 g (Or.inr (Or.inr rfl)) ha)).up _ (ol_tg_arcs ad g)⟩
  have R : ∀ r ∈ [31, 32, 33, 34, 35, 36, 37, 38, 39, 40], r ∈ ol_uq := by decide
  refine ol_MG.congr (fun r hr => ?_) (h.2.1.arc w br f3 f2)
  rw [ol_vu hL _ _ _ (by decide) (R r hr)]
  refine ol_u2_cg (R := [31, 32, 33, 34, 35, 36, 37, 38, 39, 40]) (fun r hr => ?_) _ _ _ r hr
  rw [ol_vu hL _ _ _ (by decide) (R r hr)]
  refine ol_u2_cg (R := [31, 32, 33, 34, 35, 36, 37, 38, 39, 40]) (fun r hr => ?_) _ _ _ r hr
  rw [ol_vu hL _ _ _ (by decide) (R r hr)]
  refine ol_u2_cg (R := [31, 32, 33, 34, 35, 36, 37, 38, 39, 40]) (fun r hr => ?_) _ _ _ r hr
  exact ol_vu hL _ _ _ (by decide) (R r hr)
end OLLI
/-- found(), while slot g is being loaded -/
theorem mm_fnd (l : Launch) (D : va_G) (cA : Nat → ClassId) {ro : Nat → Nat} {I : Nat → Nat → Int32} {F : Nat → Nat → Option Nat} {ad : Nat → Nat} (hL : ol_L ro F ad) {g n : Nat} {So : Nat → Nat} {T : Nat → Nat → Int32} {P : Nat → Nat → Option Nat} {I0 : Nat → Nat → Int32} {b : ol_B} {kc kf M u : Nat} (hg : g < 2) (h40 : n ≤ 40) (h : ol_LI ad g n So T P I0 I b kc kf) (hB : ol_BW n So b M) (hu : u < n) :
    ol_M l D cA yX11_found cX11_found 3 (some .int) (ol_r 0 0 0) [.ref (ad 10), .int (nI g), .int (nI u)] ro I F (fun v ro' I' F' => v = some (.int (nI (sp_no b u))) ∧ ro' = ro ∧ F' = F ∧ ol_LI ad g n So T P I0 I' (sp_find b u) kc kf ∧ I' (ad 10) = I (ad 10) ∧ I' (ad 30) = I (ad 30) ∧ I' (ad 41) = I (ad 41)) := by
  have e5 := h.2.1.2.2.2.2.1 u (by omega)
  cases ho : b.2.2.2 u with
  | some k =>
    rw [ho] at e5
    have hk : k < 40 := by
      have := (hB.2.2.1 u k ho).2.1
      have := hB.le
      omega
    refine (mm_found_old l D cA hL (g := g) (t := u) (k := 0) hg (by omega) (by show ¬ ol_vf I ad 33 (40 * g + u) < 0; rw [e5]; exact nI_pos (by omega))).mono ?_
    rintro v ro' I' F' ⟨rfl, rfl, rfl, rfl⟩
    have en : sp_no b u = k := (h.2.1.findO ho).2
    have eb : sp_find b u = b := by
      unfold sp_find
      rw [ho]
    refine ⟨?_, rfl, rfl, by rw [eb]; exact h, rfl, rfl, rfl⟩
    rw [en]
    show some (Value.int (ol_vf I' ad 33 (40 * g + u))) = _
    rw [e5]
    rfl
  | none =>
    rw [ho] at e5
    have hk : b.2.1 0 0 < 40 := by
      have := hB.lt hu ho
      omega
    refine (mm_found_new l D cA hL (g := g) (t := u) (k := b.2.1 0 0) hg (by omega) (by show ol_vf I ad 33 (40 * g + u) < 0; rw [e5]; decide) h.2.1.1 hk).mono ?_
    rintro v ro' I' F' ⟨rfl, rfl, rfl, rfl⟩
    have en : sp_no b u = b.2.1 0 0 := (h.2.1.findN ho).2
    refine ⟨by rw [en], rfl, rfl, h.findN hL (by omega) hk ho, ?_, ?_, ?_⟩
    · rw [ol_u2_a _ _ (hL.ne (by decide) (by decide) (by decide)), ol_u2_a _ _ (hL.ne (by decide) (by decide) (by decide)), ol_u2_a _ _ (hL.ne (by decide) (by decide) (by decide))]
    · rw [ol_u2_a _ _ (hL.ne (by decide) (by decide) (by decide)), ol_u2_a _ _ (hL.ne (by decide) (by decide) (by decide)), ol_u2_a _ _ (hL.ne (by decide) (by decide) (by decide))]
    · rw [ol_u2_a _ _ (hL.ne (by decide) (by decide) (by decide)), ol_u2_a _ _ (hL.ne (by decide) (by decide) (by decide)), ol_u2_a _ _ (hL.ne (by decide) (by decide) (by decide))]
end
section
section OLSP
variable {So : Nat → Nat} {T : Nat → Nat → Int32} {P : Nat → Nat → Option Nat} {t d i : Nat} {b : ol_B}
theorem sp_ls_none (hq : sp_lk So T P t i = none) : sp_ls So T P t (d + 1) i b = sp_ls So T P t d (i + 1) (sp_hole b) := by
  rw [sp_ls, hq]
  rfl
theorem sp_ls_node {u : Nat} (hq : sp_lk So T P t i = some u) (hs : ¬ So u = 2) : sp_ls So T P t (d + 1) i b = sp_ls So T P t d (i + 1) (sp_arc b u 1 0) := by
  rw [sp_ls, hq]
  show (match (ol_if (So u = 2) _ _ : ol_B × Option (Nat × Int32)) with | (b', none) => _ | (b', some f) => _) = _
  rw [ol_if_f hs]
theorem sp_ls_b1 {u : Nat} (hq : sp_lk So T P t i = some u) (hs : So u = 2) (he : sp_en P u t = none) : sp_ls So T P t (d + 1) i b = (sp_ask b u, some (u, 1)) := by
  rw [sp_ls, hq]
  show (match (ol_if (So u = 2) _ _ : ol_B × Option (Nat × Int32)) with | (b', none) => _ | (b', some f) => _) = _
  rw [ol_if_t hs, he]
theorem sp_ls_b3 {u e : Nat} (hq : sp_lk So T P t i = some u) (hs : So u = 2) (he : sp_en P u t = some e) (hse : So e = 2) : sp_ls So T P t (d + 1) i b = (sp_ask b u, some (u, 3)) := by
  rw [sp_ls, hq]
  show (match (ol_if (So u = 2) _ _ : ol_B × Option (Nat × Int32)) with | (b', none) => _ | (b', some f) => _) = _
  rw [ol_if_t hs, he]
  show (match (ol_if (So e = 2) _ _ : ol_B × Option (Nat × Int32)) with | (b', none) => _ | (b', some f) => _) = _
  rw [ol_if_t hse]
theorem sp_ls_ok {u e : Nat} (hq : sp_lk So T P t i = some u) (hs : So u = 2) (he : sp_en P u t = some e) (hse : ¬ So e = 2) : sp_ls So T P t (d + 1) i b = sp_ls So T P t d (i + 1) (sp_arc (sp_ask (sp_ask b u) u) e (T 2 u) 1) := by
  rw [sp_ls, hq]
  show (match (ol_if (So u = 2) _ _ : ol_B × Option (Nat × Int32)) with | (b', none) => _ | (b', some f) => _) = _
  rw [ol_if_t hs, he]
  show (match (ol_if (So e = 2) _ _ : ol_B × Option (Nat × Int32)) with | (b', none) => _ | (b', some f) => _) = _
  rw [ol_if_f hse]
end OLSP
theorem sp_lk_lt {n : Nat} {So : Nat → Nat} {T : Nat → Nat → Int32} {P : Nat → Nat → Option Nat} (hV : ol_V n So T P) {t i u : Nat} (ht : t < n) (hc : sp_lc So T P t = 0) (hi : i < sp_ln So P t) (h : sp_lk So T P t i = some u) : u < n := by
  have hp := (hV.2 t ht).2.2
  unfold sp_lk at h
  unfold sp_lc at hc
  unfold sp_ln at hi
  by_cases h5 : So t = 5
  · rw [ol_if_t h5] at h hc
    by_cases hk : ol_k 6 (T 2 t)
    · obtain ⟨v, hv, ev, hv31⟩ := ol_k_ix hk (by omega)
      rw [ev, nI_clamp hv31] at h
      exact hp (1 + v) (by omega) u h
    · rw [ol_if_f hk] at hc
      exact absurd hc (by decide)
  · rw [ol_if_f h5] at h hi
    by_cases h14 : So t = 1 ∨ So t = 4
    · rw [ol_if_t h14] at h hi
      exact hp (1 + i) (by omega) u h
    · rw [ol_if_f h14] at h
      exact hp 0 (by omega) u h
theorem sp_ln_le (So : Nat → Nat) (P : Nat → Nat → Option Nat) (t : Nat) : sp_ln So P t ≤ 6 := by
  unfold sp_ln
  rcases ol_if_or (So t = 5) 1 (ol_if (So t = 1 ∨ So t = 4) 6 (ol_if (P 0 t = none) 0 1)) with h | h <;> rw [h]
  · omega
  · rcases ol_if_or (So t = 1 ∨ So t = 4) 6 (ol_if (P 0 t = none) 0 1) with h | h <;> rw [h]
    · omega
    · rcases ol_if_or (P 0 t = none) 0 1 with h | h <;> rw [h] <;> omega
theorem sp_en_lt {n : Nat} {So : Nat → Nat} {T : Nat → Nat → Int32} {P : Nat → Nat → Option Nat} (hV : ol_V n So T P) {u t e : Nat} (hu : u < n) (h : sp_en P u t = some e) : e < n := by
  have hp := (hV.2 u hu).2.2
  unfold sp_en at h
  rcases ol_if_or (P 1 u = some t) (P 2 u) (P 1 u) with q | q <;> rw [q] at h
  · exact hp 2 (by omega) e h
  · exact hp 1 (by omega) e h
/-- what refuse() leaves -/
def ol_rfu (I : Nat → Nat → Int32) (ad : Nat → Nat) (a b d : Int32) : Nat → Nat → Int32 := ol_u2 (ol_u2 (ol_u2 (ol_u2 I (ad 10) 24 a) (ad 10) 25 b) (ad 10) 26 d) (ad 10) 23 (I (ad 10) 23 + 1)
end
section
set_option maxRecDepth 100000 in
set_option maxHeartbeats 4000000 in
theorem tl_arc {p : Program} {l : Launch} {e : Env} {R : Room} {s : State} {m : MethodId} {args : Array Value} {below : List Frame} {meth : Method} {c : Code} {D : va_G} {cA : Nat → ClassId} {A : Nat → Prop} {Q : State → Prop} {ro : Nat → Nat} {F : Nat → Nat → Option Nat} {cells slots : Nat} (C : ol_Cx p s m args c cX11_arcsOf 8 yX11_arcsOf.cls D cA A) {ad : Nat → Nat} (hL : ol_L ro F ad) {g n : Nat} {So : Nat → Nat} {T : Nat → Nat → Int32} {P : Nat → Nat → Option Nat} (hV : ol_V n So T P) (hg : g < 2) {I0 : Nat → Nat → Int32} {kc kf : Nat} {I : Nat → Nat → Int32} {b : ol_B} {M t i u e2 : Nat} {w : Int32} (hI : ol_LI ad g n So T P I0 I b kc kf) (hB : ol_BW n So b M) (hM : M < 240) (hu : u < n) (he : e2 < n) (hs : ¬ So e2 = 2) (hR1 : ol_rm R (ol_r 0 0 0) 3 cells slots) (ex : ∀ I' : Nat → Nat → Int32, ol_LI ad g n So T P I0 I' (sp_arc b e2 w (ol_p (So u = 2))) kc kf → I' (ad 10) = I (ad 10) → I' (ad 30) = I (ad 30) → I' (ad 41) = I (ad 41) → ol_W p l e R s m args below meth c D cA A Q 8 ro I' F cells slots 193 [some (.ref (ad 10)), some (.int (nI g)), some (.int (nI t)), some (.int (nI i)), none, none, none, none] []) {x7 : Option Value} : ol_W p l e R s m args below meth c D cA A Q 8 ro I F cells slots 123 [some (.ref (ad 10)), some (.int (nI g)), some (.int (nI t)), some (.int (nI i)), some (.int (nI u)), some (.int (nI e2)), some (.int w), x7] [] := by
  have hm : ol_is ro (ad 10) (.inl 9) := hL.is 10 (by decide) (by decide) rfl
  have f_sorts : F (ad 10) 1 = some (ad 22) := hL.mf 1 22 (by decide)
  have i_sorts : ol_is ro (ad 22) (.inr (0, 40)) := hL.is 22 (by decide) (by decide) rfl
  have f_askedOf : F (ad 10) 7 = some (ad 28) := hL.mf 7 28 (by decide)
  have i_askedOf : ol_is ro (ad 28) (.inr (0, 40)) := hL.is 28 (by decide) (by decide) rfl
  have f_links : F (ad 10) 10 = some (ad 30) := hL.mf 10 30 (by decide)
  have i_links : ol_is ro (ad 30) (.inr (0, 6)) := hL.is 30 (by decide) (by decide) rfl
  have f_arcsIn : F (ad 10) 18 = some (ad 36) := hL.mf 18 36 (by decide)
  have i_arcsIn : ol_is ro (ad 36) (.inr (0, 2)) := hL.is 36 (by decide) (by decide) rfl
  have f_arcTo : F (ad 10) 19 = some (ad 37) := hL.mf 19 37 (by decide)
  have i_arcTo : ol_is ro (ad 37) (.inr (0, 480)) := hL.is 37 (by decide) (by decide) rfl
  have f_arcWeight : F (ad 10) 20 = some (ad 38) := hL.mf 20 38 (by decide)
  have i_arcWeight : ol_is ro (ad 38) (.inr (0, 480)) := hL.is 38 (by decide) (by decide) rfl
  have f_arcBridge : F (ad 10) 21 = some (ad 39) := hL.mf 21 39 (by decide)
  have i_arcBridge : ol_is ro (ad 39) (.inr (1, 480)) := hL.is 39 (by decide) (by decide) rfl
  have f_holeMany : F (ad 10) 22 = some (ad 40) := hL.mf 22 40 (by decide)
  have i_holeMany : ol_is ro (ad 40) (.inr (0, 2)) := hL.is 40 (by decide) (by decide) rfl
  have h40 := hV.1
  have e36 : I (ad 36) g = nI (b.2.1 0 1) := hI.2.1.2.1
  have hM2 := hB.2.2.2.1
  have n36_37 : ad 36 ≠ ad 37 := hL.ne (by decide) (by decide) (by decide)
  have n36_38 : ad 36 ≠ ad 38 := hL.ne (by decide) (by decide) (by decide)
  have n36_39 : ad 36 ≠ ad 39 := hL.ne (by decide) (by decide) (by decide)
  have n22_37 : ad 22 ≠ ad 37 := hL.ne (by decide) (by decide) (by decide)
  have n22_38 : ad 22 ≠ ad 38 := hL.ne (by decide) (by decide) (by decide)
  have n10_36 : ad 10 ≠ ad 36 := hL.ne (by decide) (by decide) (by decide)
  have n10_37 : ad 10 ≠ ad 37 := hL.ne (by decide) (by decide) (by decide)
  have n10_38 : ad 10 ≠ ad 38 := hL.ne (by decide) (by decide) (by decide)
  have n10_39 : ad 10 ≠ ad 39 := hL.ne (by decide) (by decide) (by decide)
  have n30_36 : ad 30 ≠ ad 36 := hL.ne (by decide) (by decide) (by decide)
  have n30_37 : ad 30 ≠ ad 37 := hL.ne (by decide) (by decide) (by decide)
  have n30_38 : ad 30 ≠ ad 38 := hL.ne (by decide) (by decide) (by decide)
  have n30_39 : ad 30 ≠ ad 39 := hL.ne (by decide) (by decide) (by decide)
  have n41_36 : ad 41 ≠ ad 36 := hL.ne (by decide) (by decide) (by decide)
  have n41_37 : ad 41 ≠ ad 37 := hL.ne (by decide) (by decide) (by decide)
  have n41_38 : ad 41 ≠ ad 38 := hL.ne (by decide) (by decide) (by decide)
  have n41_39 : ad 41 ≠ ad 39 := hL.ne (by decide) (by decide) (by decide)
  refine ol_sipush (v := 240) C dX11_arcsOf_123 (by decide) ?_
  refine ol_iload_n C dX11_arcsOf_126 rfl rfl ?_
  refine ol_imul C dX11_arcsOf_127 ?_
  refine ol_aload_n C dX11_arcsOf_128 rfl rfl (by first | exact ol_isq_r _ | exact ol_isq_q _ | exact ol_isq_n) ?_
  refine ol_gR (k := 18) C (by assumption) rfl rfl wd_598 (.inl rfl) dX11_arcsOf_129 ?_
  refine ol_rf (by assumption) ?_
  refine ol_iload_n C dX11_arcsOf_132 rfl rfl ?_
  refine ol_lI g C (by assumption) rfl hg (by decide) dX11_arcsOf_133 ?_
  refine ol_ti e36 ?_
  refine ol_iadd C dX11_arcsOf_134 ?_
  refine ol_ti (y := nI (240 * g + b.2.1 0 1)) (ol_ma rfl) ?_
  refine ol_istore C dX11_arcsOf_135 (by decide) ?_
  refine ol_aload_n C dX11_arcsOf_137 rfl rfl (by first | exact ol_isq_r _ | exact ol_isq_q _ | exact ol_isq_n) ?_
  refine ol_gR (k := 19) C (by assumption) rfl rfl wd_599 (.inl rfl) dX11_arcsOf_138 ?_
  refine ol_rf (by assumption) ?_
  refine ol_iload C dX11_arcsOf_141 rfl ?_
  refine ol_aload_n C dX11_arcsOf_143 rfl rfl (by first | exact ol_isq_r _ | exact ol_isq_q _ | exact ol_isq_n) ?_
  refine ol_iload_n C dX11_arcsOf_144 rfl rfl ?_
  refine ol_iload C dX11_arcsOf_145 rfl ?_
  refine ol_callV C (mm_fnd l D cA hL hg h40 hI hB he) hm.1 hm.2 rfl wd_721 wd_4 wd_718 wd_720 wq_14 mh_X11_found hR1 rfl (by first | exact Nat.le_of_ble_eq_true rfl | simp [ol_rfc, Value.category]) dX11_arcsOf_147 (fun v_147 ro_147 I_147 F_147 hh_147 => ?_)
  obtain ⟨rfl, rfl, rfl, hI2, r10, r30, r41⟩ := hh_147
  obtain ⟨-, f2, f3⟩ := sp_find_1 b e2
  have e36b : I_147 (ad 36) g = nI (b.2.1 0 1) := by have := hI2.2.1.2.1; rw [f3] at this; exact this
  have e22 : I_147 (ad 22) u = nI (So u) := (hI2.1.2 u hu).1
  have hfin := hI2.arc hL w (ol_p (So u = 2)) (by omega)
  refine ol_st (st' := .int _ :: _) rfl ?_
  refine ol_sI (240 * g + b.2.1 0 1) C (by assumption) rfl (by omega) (by decide) dX11_arcsOf_150 ?_
  refine ol_aload_n C dX11_arcsOf_151 rfl rfl (by first | exact ol_isq_r _ | exact ol_isq_q _ | exact ol_isq_n) ?_
  refine ol_gR (k := 20) C (by assumption) rfl rfl wd_600 (.inl rfl) dX11_arcsOf_152 ?_
  refine ol_rf (by assumption) ?_
  refine ol_iload C dX11_arcsOf_155 rfl ?_
  refine ol_iload C dX11_arcsOf_157 rfl ?_
  refine ol_sI (240 * g + b.2.1 0 1) C (by assumption) rfl (by omega) (by decide) dX11_arcsOf_159 ?_
  refine ol_aload_n C dX11_arcsOf_160 rfl rfl (by first | exact ol_isq_r _ | exact ol_isq_q _ | exact ol_isq_n) ?_
  refine ol_gR (k := 21) C (by assumption) rfl rfl wd_601 (.inl rfl) dX11_arcsOf_161 ?_
  refine ol_rf (by assumption) ?_
  refine ol_iload C dX11_arcsOf_164 rfl ?_
  refine ol_aload_n C dX11_arcsOf_166 rfl rfl (by first | exact ol_isq_r _ | exact ol_isq_q _ | exact ol_isq_n) ?_
  refine ol_gR (k := 1) C (by assumption) rfl rfl wd_581 (.inl rfl) dX11_arcsOf_167 ?_
  refine ol_rf (by assumption) ?_
  refine ol_iload C dX11_arcsOf_170 rfl ?_
  refine ol_lI u C (by assumption) rfl (by omega) (by decide) dX11_arcsOf_172 ?_
  rw [ol_u2_a _ _ n22_38, ol_u2_a _ _ n22_37]
  refine ol_ti e22 ?_
  refine ol_iconst (v := 2) C dX11_arcsOf_173 (by decide) ?_
  refine ol_icmp_ne (tgt := 181) C dX11_arcsOf_174 (by decide) (fun c_174 => ?_) (fun c_174 => ?_)
  · have es : ol_p (So u = 2) = 0 := ol_p_f (fun q => c_174 (by rw [q]; rfl))
    rw [es] at hfin ex
    refine ol_iconst (v := 0) C dX11_arcsOf_181 (by decide) ?_
    refine ol_sZ (240 * g + b.2.1 0 1) C (by assumption) rfl (by omega) (by decide) rfl dX11_arcsOf_182 ?_
    refine ol_aload_n C dX11_arcsOf_183 rfl rfl (by first | exact ol_isq_r _ | exact ol_isq_q _ | exact ol_isq_n) ?_
    refine ol_gR (k := 18) C (by assumption) rfl rfl wd_598 (.inl rfl) dX11_arcsOf_184 ?_
    refine ol_rf (by assumption) ?_
    refine ol_iload_n C dX11_arcsOf_187 rfl rfl ?_
    refine ol_dup2 C dX11_arcsOf_188 (by first | rfl | exact ol_rfc _) (by first | rfl | exact ol_rfc _) ?_
    refine ol_lI g C (by assumption) rfl hg (by decide) dX11_arcsOf_189 ?_
    rw [ol_u2_a _ _ n36_39, ol_u2_a _ _ n36_38, ol_u2_a _ _ n36_37]
    refine ol_ti e36b ?_
    refine ol_iconst (v := 1) C dX11_arcsOf_190 (by decide) ?_
    refine ol_iadd C dX11_arcsOf_191 ?_
    refine ol_ti (nI_1 _) ?_
    refine ol_sI g C (by assumption) rfl hg (by decide) dX11_arcsOf_192 ?_
    refine ol_lv (lv' := [some (.ref (ad 10)), some (.int (nI g)), some (.int (nI t)), some (.int (nI i)), none, none, none, none]) (by intro i v h; rcases i with _|_|_|_|_|_|_|_|i <;> first | exact h | (simp at h)) (ex _ hfin ?_ ?_ ?_)
    · rw [ol_u2_a _ _ n10_36, ol_u2_a _ _ n10_39, ol_u2_a _ _ n10_38, ol_u2_a _ _ n10_37]
      exact r10
    · rw [ol_u2_a _ _ n30_36, ol_u2_a _ _ n30_39, ol_u2_a _ _ n30_38, ol_u2_a _ _ n30_37]
      exact r30
    · rw [ol_u2_a _ _ n41_36, ol_u2_a _ _ n41_39, ol_u2_a _ _ n41_38, ol_u2_a _ _ n41_37]
      exact r41
  · have es : ol_p (So u = 2) = 1 := ol_p_t ((ol_nIk (k := 2) (hV.2 u hu).1 (by decide)).mp c_174)
    rw [es] at hfin ex
    refine ol_iconst (v := 1) C dX11_arcsOf_177 (by decide) ?_
    refine ol_goto (tgt := 182) C dX11_arcsOf_178 (by decide) ?_
    refine ol_sZ (240 * g + b.2.1 0 1) C (by assumption) rfl (by omega) (by decide) rfl dX11_arcsOf_182 ?_
    refine ol_aload_n C dX11_arcsOf_183 rfl rfl (by first | exact ol_isq_r _ | exact ol_isq_q _ | exact ol_isq_n) ?_
    refine ol_gR (k := 18) C (by assumption) rfl rfl wd_598 (.inl rfl) dX11_arcsOf_184 ?_
    refine ol_rf (by assumption) ?_
    refine ol_iload_n C dX11_arcsOf_187 rfl rfl ?_
    refine ol_dup2 C dX11_arcsOf_188 (by first | rfl | exact ol_rfc _) (by first | rfl | exact ol_rfc _) ?_
    refine ol_lI g C (by assumption) rfl hg (by decide) dX11_arcsOf_189 ?_
    rw [ol_u2_a _ _ n36_39, ol_u2_a _ _ n36_38, ol_u2_a _ _ n36_37]
    refine ol_ti e36b ?_
    refine ol_iconst (v := 1) C dX11_arcsOf_190 (by decide) ?_
    refine ol_iadd C dX11_arcsOf_191 ?_
    refine ol_ti (nI_1 _) ?_
    refine ol_sI g C (by assumption) rfl hg (by decide) dX11_arcsOf_192 ?_
    refine ol_lv (lv' := [some (.ref (ad 10)), some (.int (nI g)), some (.int (nI t)), some (.int (nI i)), none, none, none, none]) (by intro i v h; rcases i with _|_|_|_|_|_|_|_|i <;> first | exact h | (simp at h)) (ex _ hfin ?_ ?_ ?_)
    · rw [ol_u2_a _ _ n10_36, ol_u2_a _ _ n10_39, ol_u2_a _ _ n10_38, ol_u2_a _ _ n10_37]
      exact r10
    · rw [ol_u2_a _ _ n30_36, ol_u2_a _ _ n30_39, ol_u2_a _ _ n30_38, ol_u2_a _ _ n30_37]
      exact r30
    · rw [ol_u2_a _ _ n41_36, ol_u2_a _ _ n41_39, ol_u2_a _ _ n41_38, ol_u2_a _ _ n41_37]
      exact r41

set_option maxRecDepth 100000 in
set_option maxHeartbeats 4000000 in
theorem lp_arcs {p : Program} {l : Launch} {e : Env} {R : Room} {s : State} {m : MethodId} {args : Array Value} {below : List Frame} {meth : Method} {c : Code} {D : va_G} {cA : Nat → ClassId} {A : Nat → Prop} {Q : State → Prop} {ro : Nat → Nat} {F : Nat → Nat → Option Nat} {cells slots : Nat} (C : ol_Cx p s m args c cX11_arcsOf 8 yX11_arcsOf.cls D cA A) {ad : Nat → Nat} (hL : ol_L ro F ad) {g n : Nat} {So : Nat → Nat} {T : Nat → Nat → Int32} {P : Nat → Nat → Option Nat} (hV : ol_V n So T P) (hg : g < 2) {I0 : Nat → Nat → Int32} {kc kf : Nat} {K41 : Nat → Int32} {M t : Nat} {Rs : ol_B × Option (Nat × Int32)} (ht : t < n) (hc : sp_lc So T P t = 0) (hM : M + 6 ≤ 240) (hR1 : ol_rm R (ol_r 0 0 0) 3 cells slots) (hR2 : ol_rm R (ol_r 1 0 0) 3 cells slots) (ex : ∀ (I : Nat → Nat → Int32) (b : ol_B), ol_LI ad g n So T P I0 I b kc kf → ol_BW n So b (M + sp_ln So P t) → I (ad 41) = K41 → Rs = (b, none) → ol_W p l e R s m args below meth c D cA A Q 8 ro I F cells slots 199 [some (.ref (ad 10)), some (.int (nI g)), some (.int (nI t)), some (.int (nI (sp_ln So P t))), none, none, none, none] []) (ex2 : ∀ (I : Nat → Nat → Int32) (b : ol_B) (u : Nat) (z : Int32), ol_LI ad g n So T P I0 I b kc kf → ol_BW n So b 240 → u < n → (z = 1 ∨ z = 3) → Rs = (b, some (u, z)) → ol_W p l e R s m args below meth c D cA A Q 8 ro I F cells slots 81 [some (.ref (ad 10)), none, none, none, some (.int (nI u)), none, none, some (.int z)] []) : ∀ (d i : Nat) (I : Nat → Nat → Int32) (b : ol_B), i + d = sp_ln So P t → ol_LI ad g n So T P I0 I b kc kf → ol_BW n So b (M + i) → I (ad 41) = K41 → I (ad 10) 11 = nI (sp_ln So P t) → (∀ j, j < sp_ln So P t → I (ad 30) j = ol_e (sp_lk So T P t j)) → sp_ls So T P t d i b = Rs → ol_W p l e R s m args below meth c D cA A Q 8 ro I F cells slots 2 [some (.ref (ad 10)), some (.int (nI g)), some (.int (nI t)), some (.int (nI i)), none, none, none, none] [] := by
  have hm : ol_is ro (ad 10) (.inl 9) := hL.is 10 (by decide) (by decide) rfl
  have f_sorts : F (ad 10) 1 = some (ad 22) := hL.mf 1 22 (by decide)
  have i_sorts : ol_is ro (ad 22) (.inr (0, 40)) := hL.is 22 (by decide) (by decide) rfl
  have f_askedOf : F (ad 10) 7 = some (ad 28) := hL.mf 7 28 (by decide)
  have i_askedOf : ol_is ro (ad 28) (.inr (0, 40)) := hL.is 28 (by decide) (by decide) rfl
  have f_links : F (ad 10) 10 = some (ad 30) := hL.mf 10 30 (by decide)
  have i_links : ol_is ro (ad 30) (.inr (0, 6)) := hL.is 30 (by decide) (by decide) rfl
  have f_arcsIn : F (ad 10) 18 = some (ad 36) := hL.mf 18 36 (by decide)
  have i_arcsIn : ol_is ro (ad 36) (.inr (0, 2)) := hL.is 36 (by decide) (by decide) rfl
  have f_arcTo : F (ad 10) 19 = some (ad 37) := hL.mf 19 37 (by decide)
  have i_arcTo : ol_is ro (ad 37) (.inr (0, 480)) := hL.is 37 (by decide) (by decide) rfl
  have f_arcWeight : F (ad 10) 20 = some (ad 38) := hL.mf 20 38 (by decide)
  have i_arcWeight : ol_is ro (ad 38) (.inr (0, 480)) := hL.is 38 (by decide) (by decide) rfl
  have f_arcBridge : F (ad 10) 21 = some (ad 39) := hL.mf 21 39 (by decide)
  have i_arcBridge : ol_is ro (ad 39) (.inr (1, 480)) := hL.is 39 (by decide) (by decide) rfl
  have f_holeMany : F (ad 10) 22 = some (ad 40) := hL.mf 22 40 (by decide)
  have i_holeMany : ol_is ro (ad 40) (.inr (0, 2)) := hL.is 40 (by decide) (by decide) rfl
  have h40 := hV.1
  have n10_40 : ad 10 ≠ ad 40 := hL.ne (by decide) (by decide) (by decide)
  have n30_40 : ad 30 ≠ ad 40 := hL.ne (by decide) (by decide) (by decide)
  have n10_28 : ad 10 ≠ ad 28 := hL.ne (by decide) (by decide) (by decide)
  have n30_10 : ad 30 ≠ ad 10 := hL.ne (by decide) (by decide) (by decide)
  have n30_28 : ad 30 ≠ ad 28 := hL.ne (by decide) (by decide) (by decide)
  have n41_40 : ad 41 ≠ ad 40 := hL.ne (by decide) (by decide) (by decide)
  have n41_10 : ad 41 ≠ ad 10 := hL.ne (by decide) (by decide) (by decide)
  have n41_28 : ad 41 ≠ ad 28 := hL.ne (by decide) (by decide) (by decide)
  intro d
  induction d with
  | zero =>
    intro i I b hk hI hB h41 h2 h3 hR
    have hk6 : i = sp_ln So P t := by omega
    subst hk6
    refine ol_iload_n C dX11_arcsOf_2 rfl rfl ?_
    refine ol_aload_n C dX11_arcsOf_3 rfl rfl (by first | exact ol_isq_r _ | exact ol_isq_q _ | exact ol_isq_n) ?_
    refine ol_gI (k := 11) C (by assumption) rfl rfl wd_591 (.inl rfl) dX11_arcsOf_4 ?_
    refine ol_ti h2 ?_
    refine ol_icmp_ge (tgt := 199) C dX11_arcsOf_7 (by decide) (fun c_7 => ?_) (fun c_7 => absurd (Int32.le_refl (nI (sp_ln So P t))) c_7)
    exact ex I b hI hB h41 hR.symm
  | succ d ih =>
    intro i I b hk hI hB h41 h2 h3 hR
    have hi6 : i < sp_ln So P t := by omega
    have l6 := sp_ln_le So P t
    refine ol_iload_n C dX11_arcsOf_2 rfl rfl ?_
    refine ol_aload_n C dX11_arcsOf_3 rfl rfl (by first | exact ol_isq_r _ | exact ol_isq_q _ | exact ol_isq_n) ?_
    refine ol_gI (k := 11) C (by assumption) rfl rfl wd_591 (.inl rfl) dX11_arcsOf_4 ?_
    refine ol_ti h2 ?_
    refine ol_icmp_ge (tgt := 199) C dX11_arcsOf_7 (by decide) (fun c_7 => absurd c_7 (nI_ge hi6 (by omega))) (fun c_7 => ?_)
    refine ol_aload_n C dX11_arcsOf_10 rfl rfl (by first | exact ol_isq_r _ | exact ol_isq_q _ | exact ol_isq_n) ?_
    refine ol_gR (k := 10) C (by assumption) rfl rfl wd_590 (.inl rfl) dX11_arcsOf_11 ?_
    refine ol_rf (by assumption) ?_
    refine ol_iload_n C dX11_arcsOf_14 rfl rfl ?_
    refine ol_lI i C (by assumption) rfl (by omega) (by decide) dX11_arcsOf_15 ?_
    refine ol_ti (h3 i hi6) ?_
    refine ol_istore C dX11_arcsOf_16 (by decide) ?_
    refine ol_iload C dX11_arcsOf_18 rfl ?_
    refine ol_ldc (v := (-1000009)) C wd_677 dX11_arcsOf_20 ?_
    refine ol_icmp_ne (tgt := 38) C dX11_arcsOf_22 (by decide) (fun c_22 => ?_) (fun c_22 => ?_)
    · obtain ⟨u, hu, eu⟩ := ol_e_s c_22
      have hun : u < n := sp_lk_lt hV ht hc hi6 hu
      have e22 : I (ad 22) u = nI (So u) := (hI.1.2 u hun).1
      have l6 := sp_ln_le So P t
      rw [eu]
      refine ol_iload C dX11_arcsOf_38 rfl ?_
      refine ol_istore C dX11_arcsOf_40 (by decide) ?_
      refine ol_iconst (v := 1) C dX11_arcsOf_42 (by decide) ?_
      refine ol_istore C dX11_arcsOf_43 (by decide) ?_
      refine ol_aload_n C dX11_arcsOf_45 rfl rfl (by first | exact ol_isq_r _ | exact ol_isq_q _ | exact ol_isq_n) ?_
      refine ol_gR (k := 1) C (by assumption) rfl rfl wd_581 (.inl rfl) dX11_arcsOf_46 ?_
      refine ol_rf (by assumption) ?_
      refine ol_iload C dX11_arcsOf_49 rfl ?_
      refine ol_lI u C (by assumption) rfl (by omega) (by decide) dX11_arcsOf_51 ?_
      refine ol_ti e22 ?_
      refine ol_iconst (v := 2) C dX11_arcsOf_52 (by decide) ?_
      refine ol_icmp_ne (tgt := 123) C dX11_arcsOf_53 (by decide) (fun c_53 => ?_) (fun c_53 => ?_)
      · have s2 : ¬ So u = 2 := fun q => c_53 (by rw [q]; rfl)
        have hz : ol_p (So u = 2) = 0 := ol_p_f s2
        refine tl_arc C hL hV hg hI hB (by omega) hun hun s2 hR1 (fun I2 hI2 k10 k30 k41 => ?_)
        rw [hz] at hI2
        refine ol_iincN C dX11_arcsOf_193 rfl (by decide) ?_
        refine ol_goto (tgt := 2) C dX11_arcsOf_196 (by decide) ?_
        exact ih (i + 1) I2 _ (by omega) hI2 ((hB.arc 1 0 hun s2).mono (by omega)) (by rw [k41]; exact h41) (by rw [k10]; exact h2) (by rw [k30]; exact h3) (by rw [← hR, sp_ls_node hu s2])
      · have s2 : So u = 2 := (ol_nIk (k := 2) (hV.2 u hun).1 (by decide)).mp c_53
        refine ol_aload_n C dX11_arcsOf_56 rfl rfl (by first | exact ol_isq_r _ | exact ol_isq_q _ | exact ol_isq_n) ?_
        refine ol_gR (k := 7) C (by assumption) rfl rfl wd_587 (.inl rfl) dX11_arcsOf_57 ?_
        refine ol_rf (by assumption) ?_
        refine ol_iload C dX11_arcsOf_60 rfl ?_
        refine ol_dup2 C dX11_arcsOf_62 (by first | rfl | exact ol_rfc _) (by first | rfl | exact ol_rfc _) ?_
        refine ol_lI u C (by assumption) rfl (by omega) (by decide) dX11_arcsOf_63 ?_
        refine ol_ti (hI.asked hun) ?_
        refine ol_iconst (v := 1) C dX11_arcsOf_64 (by decide) ?_
        refine ol_iadd C dX11_arcsOf_65 ?_
        refine ol_sI u C (by assumption) rfl (by omega) (by decide) dX11_arcsOf_66 ?_
        have hI1 := hI.ask hL u
        refine ol_aload_n C dX11_arcsOf_67 rfl rfl (by first | exact ol_isq_r _ | exact ol_isq_q _ | exact ol_isq_n) ?_
        refine ol_iload C dX11_arcsOf_68 rfl ?_
        refine ol_iload_n C dX11_arcsOf_70 rfl rfl ?_
        refine ol_callV C (mm_tellEnd l D cA hL hI1.1 hV hun ht) hm.1 hm.2 rfl wd_750 wd_4 wd_747 wd_749 wq_21 mh_X11_tellEnd hR2 rfl (by first | exact Nat.le_of_ble_eq_true rfl | simp [ol_rfc, Value.category]) dX11_arcsOf_71 (ol_xi ?_)
        have hI2 := hI1.sq hL ((ol_sq_rf ad _).up (ol_e (sp_en P u t)) (Or.inl ⟨rfl, Or.inl rfl⟩))
        have hcz : ol_if (sp_en P u t = none) (1 : Int32) (ol_if (ol_br So (sp_en P u t)) 3 0) ≤ 0 ↔ ol_if (sp_en P u t = none) (1 : Int32) (ol_if (ol_br So (sp_en P u t)) 3 0) = 0 := ol_le0 (by rcases ol_if_or (sp_en P u t = none) (1 : Int32) (ol_if (ol_br So (sp_en P u t)) 3 0) with h | h <;> rw [h]; simp; rcases ol_if_or (ol_br So (sp_en P u t)) (3 : Int32) 0 with h | h <;> rw [h] <;> simp)
        refine ol_istore C dX11_arcsOf_74 (by decide) ?_
        refine ol_iload C dX11_arcsOf_76 rfl ?_
        refine ol_if_le (tgt := 92) C dX11_arcsOf_78 (by decide) (fun c_78 => ?_) (fun c_78 => ?_)
        · have hz := hcz.mp c_78
          have hne : ¬ sp_en P u t = none := fun q => by rw [ol_if_t q] at hz; exact absurd hz (by decide)
          have hnb : ¬ ol_br So (sp_en P u t) := fun q => by rw [ol_if_f hne, ol_if_t q] at hz; exact absurd hz (by decide)
          obtain ⟨e2, hen0⟩ := Option.ne_none_iff_exists'.mp hne
          have hen : e2 < n := sp_en_lt hV hun hen0
          have se : ¬ So e2 = 2 := fun q => hnb ⟨e2, hen0, q⟩
          refine ol_aload_n C dX11_arcsOf_92 rfl rfl (by first | exact ol_isq_r _ | exact ol_isq_q _ | exact ol_isq_n) ?_
          refine ol_gI (k := 9) C (by assumption) rfl rfl wd_589 (.inl rfl) dX11_arcsOf_93 ?_
          rw [ol_u2_s]
          refine ol_ti (y := nI e2) (by rw [hen0]; rfl) ?_
          refine ol_istore C dX11_arcsOf_96 (by decide) ?_
          refine ol_aload_n C dX11_arcsOf_98 rfl rfl (by first | exact ol_isq_r _ | exact ol_isq_q _ | exact ol_isq_n) ?_
          refine ol_gR (k := 7) C (by assumption) rfl rfl wd_587 (.inl rfl) dX11_arcsOf_99 ?_
          refine ol_rf (by assumption) ?_
          refine ol_iload C dX11_arcsOf_102 rfl ?_
          refine ol_dup2 C dX11_arcsOf_104 (by first | rfl | exact ol_rfc _) (by first | rfl | exact ol_rfc _) ?_
          refine ol_lI u C (by assumption) rfl (by omega) (by decide) dX11_arcsOf_105 ?_
          refine ol_ti (hI2.asked hun) ?_
          refine ol_iconst (v := 1) C dX11_arcsOf_106 (by decide) ?_
          refine ol_iadd C dX11_arcsOf_107 ?_
          refine ol_sI u C (by assumption) rfl (by omega) (by decide) dX11_arcsOf_108 ?_
          have hI4 := hI2.ask hL u
          refine ol_aload_n C dX11_arcsOf_109 rfl rfl (by first | exact ol_isq_r _ | exact ol_isq_q _ | exact ol_isq_n) ?_
          refine ol_iload C dX11_arcsOf_110 rfl ?_
          refine ol_callV C (mm_tVal l D cA hL hI4.1 hV hun) hm.1 hm.2 rfl wd_738 wd_4 wd_735 wd_737 wq_18 mh_X11_tellValue hR1 rfl (by first | exact Nat.le_of_ble_eq_true rfl | simp [ol_rfc, Value.category]) dX11_arcsOf_112 (ol_xi ?_)
          have hI5 := hI4.sq hL ((ol_sq_rf ad _).up (sp_vv So (va_up T 4 (sp_ask (sp_ask b u) u).1) u) (Or.inl ⟨rfl, Or.inl rfl⟩))
          refine ol_istore C dX11_arcsOf_115 (by decide) ?_
          refine ol_aload_n C dX11_arcsOf_117 rfl rfl (by first | exact ol_isq_r _ | exact ol_isq_q _ | exact ol_isq_n) ?_
          refine ol_gI (k := 9) C (by assumption) rfl rfl wd_589 (.inl rfl) dX11_arcsOf_118 ?_
          rw [ol_u2_s]
          refine ol_ti (y := T 2 u) (by unfold sp_vv; rw [ol_if_f (by omega), ol_if_f (by omega), ol_if_f (by omega)]; rfl) ?_
          refine ol_istore C dX11_arcsOf_121 (by decide) ?_
          refine tl_arc C hL hV hg hI5 (hB.ask u |>.ask u) (by omega) hun hen se hR1 (fun I2 hI2 k10 k30 k41 => ?_)
          rw [ol_p_t s2] at hI2
          refine ol_iincN C dX11_arcsOf_193 rfl (by decide) ?_
          refine ol_goto (tgt := 2) C dX11_arcsOf_196 (by decide) ?_
          exact ih (i + 1) I2 _ (by omega) hI2 (((hB.ask u |>.ask u).arc (T 2 u) 1 hen se).mono (by omega)) (by rw [k41, ol_u2_a _ _ n41_10, ol_u2_a _ _ n41_28, ol_u2_a _ _ n41_10, ol_u2_a _ _ n41_28]; exact h41) (by rw [k10, ol_u2_k _ _ (by decide), ol_u2_a _ _ n10_28, ol_u2_k _ _ (by decide), ol_u2_a _ _ n10_28]; exact h2) (by rw [k30, ol_u2_a _ _ n30_10, ol_u2_a _ _ n30_28, ol_u2_a _ _ n30_10, ol_u2_a _ _ n30_28]; exact h3) (by rw [← hR, sp_ls_ok hu s2 hen0 se])
        · refine ol_lv (lv' := [some (.ref (ad 10)), none, none, none, some (.int (nI u)), none, none, some (.int (ol_if (sp_en P u t = none) (1 : Int32) (ol_if (ol_br So (sp_en P u t)) 3 0)))]) (by intro i v h; rcases i with _|_|_|_|_|_|_|_|i <;> first | exact h | (simp at h)) ?_
          by_cases hen : sp_en P u t = none
          · rw [ol_if_t hen]
            exact ex2 _ (sp_ask b u) u 1 hI2 ((hB.ask u).mono (by omega)) hun (Or.inl rfl) (by rw [← hR, sp_ls_b1 hu s2 hen])
          · rw [ol_if_f hen]
            by_cases hbr : ol_br So (sp_en P u t)
            · rw [ol_if_t hbr]
              obtain ⟨e2, h4, h5⟩ := hbr
              exact ex2 _ (sp_ask b u) u 3 hI2 ((hB.ask u).mono (by omega)) hun (Or.inr rfl) (by rw [← hR, sp_ls_b3 hu s2 h4 h5])
            · exact absurd (by rw [ol_if_f hen, ol_if_f hbr]; decide) c_78
    · have hq0 : sp_lk So T P t i = none := ol_e_n (fun u hu => by have := sp_lk_lt hV ht hc hi6 hu; omega) c_22
      refine ol_aload_n C dX11_arcsOf_25 rfl rfl (by first | exact ol_isq_r _ | exact ol_isq_q _ | exact ol_isq_n) ?_
      refine ol_gR (k := 22) C (by assumption) rfl rfl wd_602 (.inl rfl) dX11_arcsOf_26 ?_
      refine ol_rf (by assumption) ?_
      refine ol_iload_n C dX11_arcsOf_29 rfl rfl ?_
      refine ol_dup2 C dX11_arcsOf_30 (by first | rfl | exact ol_rfc _) (by first | rfl | exact ol_rfc _) ?_
      refine ol_lI g C (by assumption) rfl hg (by decide) dX11_arcsOf_31 ?_
      refine ol_ti (show I (ad 40) g = nI (b.2.1 0 2) from hI.2.1.2.2.1) ?_
      refine ol_iconst (v := 1) C dX11_arcsOf_32 (by decide) ?_
      refine ol_iadd C dX11_arcsOf_33 ?_
      refine ol_ti (nI_1 _) ?_
      refine ol_sI g C (by assumption) rfl hg (by decide) dX11_arcsOf_34 ?_
      refine ol_goto (tgt := 193) C dX11_arcsOf_35 (by decide) ?_
      refine ol_iincN C dX11_arcsOf_193 rfl (by decide) ?_
      refine ol_goto (tgt := 2) C dX11_arcsOf_196 (by decide) ?_
      refine ol_lv (lv' := [some (.ref (ad 10)), some (.int (nI g)), some (.int (nI t)), some (.int (nI (i + 1))), none, none, none, none]) (by intro i v h; rcases i with _|_|_|_|_|_|_|_|i <;> first | exact h | (simp at h)) ?_
      refine ih (i + 1) _ (sp_hole b) (by omega) (hI.hole hL) (hB.hole.mono (by omega)) ?_ ?_ ?_ (by rw [← hR, sp_ls_none hq0])
      · rw [ol_u2_a _ _ n41_40]
        exact h41
      · rw [ol_u2_a _ _ n10_40]
        exact h2
      · rw [ol_u2_a _ _ n30_40]
        exact h3
end
section
/-- what a growing graph keeps -/
def ol_kp (b b' : ol_B) : Prop := b.2.1 0 0 ≤ b'.2.1 0 0 ∧ (∀ m, m < b.2.1 0 0 → b'.2.1 1 m = b.2.1 1 m) ∧ b'.2.1 2 = b.2.1 2 ∧ b'.2.2.1 0 = b.2.2.1 0
theorem ol_kp_rf (b : ol_B) : ol_kp b b := ⟨Nat.le_refl _, fun _ _ => rfl, rfl, rfl⟩
theorem ol_kp.trans {a b c : ol_B} (h : ol_kp a b) (h2 : ol_kp b c) : ol_kp a c := ⟨Nat.le_trans h.1 h2.1, fun m hm => (h2.2.1 m (Nat.lt_of_lt_of_le hm h.1)).trans (h.2.1 m hm), h2.2.2.1.trans h.2.2.1, h2.2.2.2.trans h.2.2.2⟩
theorem ol_kp_ask (b : ol_B) (u : Nat) : ol_kp b (sp_ask b u) := ol_kp_rf b
theorem ol_kp_hole (b : ol_B) : ol_kp b (sp_hole b) := by
  unfold ol_kp
  rw [sp_hole_N, ol_u2_k _ _ (by decide), ol_u2_a _ _ (by decide), ol_u2_a _ _ (by decide)]
  exact ⟨Nat.le_refl _, fun _ _ => rfl, rfl, rfl⟩
theorem ol_kp_find (b : ol_B) (u : Nat) : ol_kp b (sp_find b u) := by
  unfold sp_find
  cases b.2.2.2 u with
  | some k => exact ol_kp_rf b
  | none =>
    unfold ol_kp
    dsimp only
    rw [ol_u2_s, ol_u2_a _ _ (show 1 ≠ 0 by decide), ol_u2_a _ _ (show 2 ≠ 0 by decide), ol_u2_a _ _ (show 2 ≠ 1 by decide)]
    exact ⟨by omega, fun m hm => ol_u2_k _ _ (by omega), rfl, rfl⟩
theorem ol_kp_arc (b : ol_B) (u : Nat) (w br : Int32) : ol_kp b (sp_arc b u w br) := by
  refine (ol_kp_find b u).trans ?_
  unfold ol_kp
  rw [sp_arc_N, ol_u2_k _ _ (show 0 ≠ 1 by decide), ol_u2_a _ _ (show 0 ≠ 3 by decide), ol_u2_a _ _ (show 1 ≠ 0 by decide), ol_u2_a _ _ (show 1 ≠ 3 by decide), ol_u2_a _ _ (show 2 ≠ 0 by decide), ol_u2_a _ _ (show 2 ≠ 3 by decide)]
  refine ⟨Nat.le_refl _, fun _ _ => rfl, rfl, ?_⟩
  show ol_u2 (ol_u2 b.2.2.1 1 (b.2.1 0 1) w) 2 (b.2.1 0 1) br 0 = _
  rw [ol_u2_a _ _ (by decide), ol_u2_a _ _ (by decide), (sp_find_1 b u).2.1]
section OLSQ
variable {n : Nat} {So : Nat → Nat} {T : Nat → Nat → Int32} {P : Nat → Nat → Option Nat}
theorem sp_ls_keep (hV : ol_V n So T P) {t : Nat} (ht : t < n) (hc : sp_lc So T P t = 0) : ∀ (d i M : Nat) (b : ol_B), i + d = sp_ln So P t → ol_BW n So b (M + i) → ol_kp b (sp_ls So T P t d i b).1 ∧ ol_BW n So (sp_ls So T P t d i b).1 (M + sp_ln So P t) := by
  intro d
  induction d with
  | zero =>
    intro i M b hi hB
    exact ⟨ol_kp_rf b, hB.mono (by omega)⟩
  | succ d ih =>
    intro i M b hi hB
    have hi6 : i < sp_ln So P t := by omega
    cases hq : sp_lk So T P t i with
    | none =>
      rw [sp_ls_none hq]
      obtain ⟨h1, h2⟩ := ih (i + 1) M (sp_hole b) (by omega) (hB.hole.mono (by omega))
      exact ⟨(ol_kp_hole b).trans h1, h2⟩
    | some u =>
      have hun := sp_lk_lt hV ht hc hi6 hq
      by_cases hs : So u = 2
      · cases he : sp_en P u t with
        | none =>
          rw [sp_ls_b1 hq hs he]
          exact ⟨ol_kp_ask b u, (hB.ask u).mono (by omega)⟩
        | some e =>
          by_cases hse : So e = 2
          · rw [sp_ls_b3 hq hs he hse]
            exact ⟨ol_kp_ask b u, (hB.ask u).mono (by omega)⟩
          · rw [sp_ls_ok hq hs he hse]
            obtain ⟨h1, h2⟩ := ih (i + 1) M (sp_arc (sp_ask (sp_ask b u) u) e (T 2 u) 1) (by omega) ((((hB.ask u).ask u).arc (T 2 u) 1 (sp_en_lt hV hun he) hse).mono (by omega))
            exact ⟨(ol_kp_arc (sp_ask (sp_ask b u) u) e (T 2 u) 1).trans h1, h2⟩
      · rw [sp_ls_node hq hs]
        obtain ⟨h1, h2⟩ := ih (i + 1) M (sp_arc b u 1 0) (by omega) ((hB.arc 1 0 hun hs).mono (by omega))
        exact ⟨(ol_kp_arc b u 1 0).trans h1, h2⟩
end OLSQ
/-- the first of the nodes m, m + 1 .. (d of them) whose key is that of t -/
noncomputable def sp_dk (T : Nat → Nat → Int32) (N1 : Nat → Nat) (t : Nat) : Nat → Nat → Option Nat
  | 0, _ => none
  | d + 1, m => ol_if (T 1 (N1 m) = T 1 t) (some m) (sp_dk T N1 t d (m + 1))
theorem sp_dk_lt {T : Nat → Nat → Int32} {N1 : Nat → Nat} {t : Nat} : ∀ (d m j : Nat), sp_dk T N1 t d m = some j → m ≤ j ∧ j < m + d
  | 0, m, j, h => by cases h
  | d + 1, m, j, h => by
    unfold sp_dk at h
    by_cases e : T 1 (N1 m) = T 1 t
    · rw [ol_if_t e] at h
      have := Option.some.inj h
      omega
    · rw [ol_if_f e] at h
      have := sp_dk_lt d (m + 1) j h
      omega
abbrev ol_Fl : Type := Option (Nat × Option Nat × Int32)
/-- a node is asked: its key (where asked by keys), its value, its links -/
noncomputable def sp_n3 (So : Nat → Nat) (T : Nat → Nat → Int32) (P : Nat → Nat → Option Nat) (k t : Nat) (b : ol_B) : ol_B × ol_Fl :=
  ol_if (sp_lc So T P t = 0) (match sp_ls So T P t (sp_ln So P t) 0 (sp_ask b t) with
    | (b4, none) => ((b4.1, ol_u2 b4.2.1 2 (k + 1) (b4.2.1 0 1), b4.2.2), none)
    | (b4, some q) => (b4, some (q.1, none, q.2))) (sp_ask b t, some (t, none, sp_lc So T P t))
noncomputable def sp_n2 (So : Nat → Nat) (T : Nat → Nat → Int32) (P : Nat → Nat → Option Nat) (k t : Nat) (b : ol_B) : ol_B × ol_Fl :=
  ol_if (sp_vc So T t = 0) (sp_n3 So T P k t (va_up b.1 t (b.1 t + 1), b.2.1, ol_u2 b.2.2.1 0 k (sp_vv So T t), b.2.2.2)) (sp_ask b t, some (t, none, sp_vc So T t))
noncomputable def sp_nd (So : Nat → Nat) (T : Nat → Nat → Int32) (P : Nat → Nat → Option Nat) (byK : Prop) (k : Nat) (b : ol_B) : ol_B × ol_Fl :=
  ol_if byK (ol_if (sp_kc So T (b.2.1 1 k) = 0) (match sp_dk T (b.2.1 1) (b.2.1 1 k) k 0 with
    | some m => (sp_ask b (b.2.1 1 k), some (b.2.1 1 k, some (b.2.1 1 m), 6))
    | none => sp_n2 So T P k (b.2.1 1 k) (sp_ask b (b.2.1 1 k))) (sp_ask b (b.2.1 1 k), some (b.2.1 1 k, none, sp_kc So T (b.2.1 1 k)))) (sp_n2 So T P k (b.2.1 1 k) b)
noncomputable def sp_ld (So : Nat → Nat) (T : Nat → Nat → Int32) (P : Nat → Nat → Option Nat) (byK : Prop) : Nat → Nat → ol_B → ol_B × ol_Fl
  | 0, _, b => (b, none)
  | d + 1, k, b => ol_if (k < b.2.1 0 0) (match sp_nd So T P byK k b with
    | (b', none) => sp_ld So T P byK d (k + 1) b'
    | (b', some q) => (b', some q)) (b, none)
/-- what asking node k keeps of b; R is what came out -/
def ol_K2 (n : Nat) (So : Nat → Nat) (M k : Nat) (b : ol_B) (R : ol_B × ol_Fl) : Prop := b.2.1 0 0 ≤ R.1.2.1 0 0 ∧ (∀ m, m < b.2.1 0 0 → R.1.2.1 1 m = b.2.1 1 m) ∧ ol_BW n So R.1 (M + 6) ∧ (∀ j, j ≠ k + 1 → R.1.2.1 2 j = b.2.1 2 j) ∧ (∀ j, j ≠ k → R.1.2.2.1 0 j = b.2.2.1 0 j) ∧ (R.2 = none → R.1.2.1 2 (k + 1) = R.1.2.1 0 1)
theorem ol_K2.ask {n : Nat} {So : Nat → Nat} {M k t : Nat} {b : ol_B} {R : ol_B × ol_Fl} (h : ol_K2 n So M k (sp_ask b t) R) : ol_K2 n So M k b R := h
theorem ol_K2.col {n : Nat} {So : Nat → Nat} {M k : Nat} {b : ol_B} {R : ol_B × ol_Fl} {A : Nat → Int32} {x : Int32} (h : ol_K2 n So M k (A, b.2.1, ol_u2 b.2.2.1 0 k x, b.2.2.2) R) : ol_K2 n So M k b R :=
  ⟨h.1, h.2.1, h.2.2.1, h.2.2.2.1, fun j hj => (h.2.2.2.2.1 j hj).trans (ol_u2_k (a := 0) (k := k) (j := j) b.2.2.1 x hj), h.2.2.2.2.2⟩
theorem ol_K2_f {n : Nat} {So : Nat → Nat} {M k t : Nat} {b : ol_B} (hB : ol_BW n So b M) (q : Nat × Option Nat × Int32) : ol_K2 n So M k b (sp_ask b t, some q) := ⟨Nat.le_refl _, fun _ _ => rfl, (hB.ask t).mono (by omega), fun _ _ => rfl, fun _ _ => rfl, fun z => by cases z⟩
theorem sp_n3_keep {n : Nat} {So : Nat → Nat} {T : Nat → Nat → Int32} {P : Nat → Nat → Option Nat} (hV : ol_V n So T P) {k t M : Nat} (ht : t < n) {b : ol_B} (hB : ol_BW n So b M) : ol_K2 n So M k b (sp_n3 So T P k t b) := by
  unfold sp_n3
  by_cases hc : sp_lc So T P t = 0
  · rw [ol_if_t hc]
    have l6 := sp_ln_le So P t
    obtain ⟨h1, h2⟩ := sp_ls_keep hV ht hc (sp_ln So P t) 0 M (sp_ask b t) (by omega) ((hB.ask t).mono (by omega))
    cases hr : sp_ls So T P t (sp_ln So P t) 0 (sp_ask b t) with
    | mk b4 f =>
      rw [hr] at h1 h2
      cases f with
      | none =>
        dsimp only at h1 h2 ⊢
        refine ol_K2.ask (t := t) ?_
        unfold ol_K2
        dsimp only
        rw [ol_u2_a _ _ (show 0 ≠ 2 by decide), ol_u2_a _ _ (show 1 ≠ 2 by decide)]
        refine ⟨h1.1, h1.2.1, ?_, fun j hj => by rw [ol_u2_k _ _ hj, h1.2.2.1], fun j _ => congrFun h1.2.2.2 j, fun _ => ol_u2_s _ _ _ _⟩
        have h3 := h2.mono (show M + sp_ln So P t ≤ M + 6 by omega)
        unfold ol_BW at h3 ⊢
        dsimp only
        rw [ol_u2_a _ _ (show 0 ≠ 2 by decide), ol_u2_a _ _ (show 1 ≠ 2 by decide), ol_u2_a _ _ (show 3 ≠ 2 by decide)]
        exact h3
      | some q => exact ⟨h1.1, h1.2.1, h2.mono (by omega), fun j _ => congrFun h1.2.2.1 j, fun j _ => congrFun h1.2.2.2 j, fun z => by cases z⟩
  · rw [ol_if_f hc]
    exact ol_K2_f hB _
theorem sp_n2_keep {n : Nat} {So : Nat → Nat} {T : Nat → Nat → Int32} {P : Nat → Nat → Option Nat} (hV : ol_V n So T P) {k t M : Nat} (ht : t < n) {b : ol_B} (hB : ol_BW n So b M) : ol_K2 n So M k b (sp_n2 So T P k t b) := by
  unfold sp_n2
  by_cases hc : sp_vc So T t = 0
  · rw [ol_if_t hc]
    exact ol_K2.col (sp_n3_keep hV ht hB)
  · rw [ol_if_f hc]
    exact ol_K2_f hB _
theorem sp_nd_keep {n : Nat} {So : Nat → Nat} {T : Nat → Nat → Int32} {P : Nat → Nat → Option Nat} (hV : ol_V n So T P) {byK : Prop} {k M : Nat} {b : ol_B} (hk : k < b.2.1 0 0) (hB : ol_BW n So b M) : ol_K2 n So M k b (sp_nd So T P byK k b) := by
  have ht := (hB.2.1 k hk).1
  unfold sp_nd
  by_cases hb : byK
  · rw [ol_if_t hb]
    by_cases hc : sp_kc So T (b.2.1 1 k) = 0
    · rw [ol_if_t hc]
      cases sp_dk T (b.2.1 1) (b.2.1 1 k) k 0 with
      | some m => exact ol_K2_f hB _
      | none =>
        have h := sp_n2_keep hV (k := k) (t := b.2.1 1 k) (M := M) ht (b := sp_ask b (b.2.1 1 k)) (hB.ask _)
        exact h.ask
    · rw [ol_if_f hc]
      exact ol_K2_f hB _
  · rw [ol_if_f hb]
    exact sp_n2_keep hV ht hB
end
section
set_option maxRecDepth 100000 in
set_option maxHeartbeats 4000000 in
theorem mm_arcsOf (l : Launch) (D : va_G) (cA : Nat → ClassId) {ro : Nat → Nat} {I : Nat → Nat → Int32} {F : Nat → Nat → Option Nat} {ad : Nat → Nat} (hL : ol_L ro F ad) {g n : Nat} {So : Nat → Nat} {T : Nat → Nat → Int32} {P : Nat → Nat → Option Nat} (hV : ol_V n So T P) (hg : g < 2) {I0 : Nat → Nat → Int32} {kc kf : Nat} {b : ol_B} {M t : Nat} (hI : ol_LI ad g n So T P I0 I b kc kf) (hB : ol_BW n So b M) (ht : t < n) (hc : sp_lc So T P t = 0) (hM : M + 6 ≤ 240) (h2 : I (ad 10) 11 = nI (sp_ln So P t)) (h3 : ∀ j, j < sp_ln So P t → I (ad 30) j = ol_e (sp_lk So T P t j)) : ol_M l D cA yX11_arcsOf cX11_arcsOf 8 (some FieldType.int) (ol_r 2 0 0) [.ref (ad 10), .int (nI g), .int (nI t)] ro I F (fun v ro' I' F' => ro' = ro ∧ F' = F ∧ (((sp_ls So T P t (sp_ln So P t) 0 b).2 = none ∧ v = some (.int 0) ∧ ol_LI ad g n So T P I0 I' (sp_ls So T P t (sp_ln So P t) 0 b).1 kc kf ∧ I' (ad 41) = I (ad 41)) ∨ ∃ (u : Nat) (z : Int32) (I2 : Nat → Nat → Int32), (sp_ls So T P t (sp_ln So P t) 0 b).2 = some (u, z) ∧ (z = 1 ∨ z = 3) ∧ v = some (.int (-1000010 - z)) ∧ ol_LI ad g n So T P I0 I2 (sp_ls So T P t (sp_ln So P t) 0 b).1 kc kf ∧ I' = ol_rfu I2 ad (nI u) (-1000009) z)) := by
  refine ol_M.of (by decide +kernel) (Nat.le_of_ble_eq_true rfl) (by simp [Value.category, ol_rfc]) ?_
  intro p e s m args below meth c C hret hlk hin
  have hm : ol_is ro (ad 10) (.inl 9) := hL.is 10 (by decide) (by decide) rfl
  have f_sorts : F (ad 10) 1 = some (ad 22) := hL.mf 1 22 (by decide)
  have i_sorts : ol_is ro (ad 22) (.inr (0, 40)) := hL.is 22 (by decide) (by decide) rfl
  have f_askedOf : F (ad 10) 7 = some (ad 28) := hL.mf 7 28 (by decide)
  have i_askedOf : ol_is ro (ad 28) (.inr (0, 40)) := hL.is 28 (by decide) (by decide) rfl
  have f_links : F (ad 10) 10 = some (ad 30) := hL.mf 10 30 (by decide)
  have i_links : ol_is ro (ad 30) (.inr (0, 6)) := hL.is 30 (by decide) (by decide) rfl
  have f_arcsIn : F (ad 10) 18 = some (ad 36) := hL.mf 18 36 (by decide)
  have i_arcsIn : ol_is ro (ad 36) (.inr (0, 2)) := hL.is 36 (by decide) (by decide) rfl
  have f_arcTo : F (ad 10) 19 = some (ad 37) := hL.mf 19 37 (by decide)
  have i_arcTo : ol_is ro (ad 37) (.inr (0, 480)) := hL.is 37 (by decide) (by decide) rfl
  have f_arcWeight : F (ad 10) 20 = some (ad 38) := hL.mf 20 38 (by decide)
  have i_arcWeight : ol_is ro (ad 38) (.inr (0, 480)) := hL.is 38 (by decide) (by decide) rfl
  have f_arcBridge : F (ad 10) 21 = some (ad 39) := hL.mf 21 39 (by decide)
  have i_arcBridge : ol_is ro (ad 39) (.inr (1, 480)) := hL.is 39 (by decide) (by decide) rfl
  have f_holeMany : F (ad 10) 22 = some (ad 40) := hL.mf 22 40 (by decide)
  have i_holeMany : ol_is ro (ad 40) (.inr (0, 2)) := hL.is 40 (by decide) (by decide) rfl
  refine ol_iconst (v := 0) C dX11_arcsOf_0 (by decide) ?_
  refine ol_istore_n C dX11_arcsOf_1 rfl (by decide) ?_
  refine ol_lv (lv' := [some (.ref (ad 10)), some (.int (nI g)), some (.int (nI t)), some (.int (nI 0)), none, none, none, none]) (by intro i v h; rcases i with _|_|_|_|_|_|_|_|i <;> first | exact h | (simp at h)) ?_
  refine lp_arcs C hL hV hg (Rs := sp_ls So T P t (sp_ln So P t) 0 b) ht hc hM (by decide) (by decide) (fun I2 b2 hI2 hB2 h41 hR => ?_) (fun I2 b2 u z hI2 hB2 hu hz hR => ?_) (sp_ln So P t) 0 I b (by omega) hI (hB.mono (by omega)) rfl h2 h3 rfl
  · refine ol_iconst (v := 0) C dX11_arcsOf_199 (by decide) ?_
    exact ol_iret C hret hlk rfl (by decide) (by decide) dX11_arcsOf_200 ⟨rfl, rfl, Or.inl ⟨by rw [hR], rfl, by rw [hR]; exact hI2, h41⟩⟩
  · refine ol_aload_n C dX11_arcsOf_81 rfl rfl (by first | exact ol_isq_r _ | exact ol_isq_q _ | exact ol_isq_n) ?_
    refine ol_iload C dX11_arcsOf_82 rfl ?_
    refine ol_ldc (v := (-1000009)) C wd_677 dX11_arcsOf_84 ?_
    refine ol_iload C dX11_arcsOf_86 rfl ?_
    refine ol_callV C (mm_refuse l D cA hL (nI u) (-1000009) z) hm.1 hm.2 rfl wd_733 wd_4 wd_730 wd_732 wq_17 mh_X11_refuse (by decide) rfl (by first | exact Nat.le_of_ble_eq_true rfl | simp [ol_rfc, Value.category]) dX11_arcsOf_88 (ol_xi ?_)
    exact ol_iret C hret hlk rfl (by decide) (by decide) dX11_arcsOf_91 ⟨rfl, rfl, Or.inr ⟨u, z, I2, by rw [hR], hz, rfl, by rw [hR]; exact hI2, rfl⟩⟩

set_option maxRecDepth 100000 in
set_option maxHeartbeats 4000000 in
theorem lp_keys {p : Program} {l : Launch} {e : Env} {R : Room} {s : State} {m : MethodId} {args : Array Value} {below : List Frame} {meth : Method} {c : Code} {D : va_G} {cA : Nat → ClassId} {A : Nat → Prop} {Q : State → Prop} {ro : Nat → Nat} {F : Nat → Nat → Option Nat} {cells slots : Nat} (C : ol_Cx p s m args c cX11_ask 7 yX11_ask.cls D cA A) {ad : Nat → Nat} (hL : ol_L ro F ad) {T : Nat → Nat → Int32} {N1 : Nat → Nat} {I : Nat → Nat → Int32} {g k t : Nat} (hg : g < 2) (hk40 : k < 40) (hky : ∀ j, j < k → I (ad 41) j = T 1 (N1 j)) (htd : I (ad 10) 9 = T 1 t) (hth : ∀ j, j < k → I (ad 32) (40 * g + j) = nI (N1 j)) {x3 x5 : Option Value} {Rs : Option Nat} (ex : Rs = none → ol_W p l e R s m args below meth c D cA A Q 7 ro I F cells slots 112 [some (.ref (ad 10)), some (.int (nI g)), some (.int (nI k)), x3, some (.int (nI t)), none, none] []) (ex2 : ∀ j, Rs = some j → j < k → ol_W p l e R s m args below meth c D cA A Q 7 ro I F cells slots 85 [some (.ref (ad 10)), some (.int (nI g)), some (.int (nI k)), x3, some (.int (nI t)), x5, some (.int (nI j))] []) : ∀ (d j : Nat), j + d = k → sp_dk T N1 t d j = Rs → ol_W p l e R s m args below meth c D cA A Q 7 ro I F cells slots 65 [some (.ref (ad 10)), some (.int (nI g)), some (.int (nI k)), x3, some (.int (nI t)), x5, some (.int (nI j))] [] := by
  have hm : ol_is ro (ad 10) (.inl 9) := hL.is 10 (by decide) (by decide) rfl
  have f_askedOf : F (ad 10) 7 = some (ad 28) := hL.mf 7 28 (by decide)
  have i_askedOf : ol_is ro (ad 28) (.inr (0, 40)) := hL.is 28 (by decide) (by decide) rfl
  have f_thingOf : F (ad 10) 14 = some (ad 32) := hL.mf 14 32 (by decide)
  have i_thingOf : ol_is ro (ad 32) (.inr (0, 80)) := hL.is 32 (by decide) (by decide) rfl
  have f_columns : F (ad 10) 16 = some (ad 34) := hL.mf 16 34 (by decide)
  have i_columns : ol_is ro (ad 34) (.inr (0, 80)) := hL.is 34 (by decide) (by decide) rfl
  have f_firstArc : F (ad 10) 17 = some (ad 35) := hL.mf 17 35 (by decide)
  have i_firstArc : ol_is ro (ad 35) (.inr (0, 82)) := hL.is 35 (by decide) (by decide) rfl
  have f_arcsIn : F (ad 10) 18 = some (ad 36) := hL.mf 18 36 (by decide)
  have i_arcsIn : ol_is ro (ad 36) (.inr (0, 2)) := hL.is 36 (by decide) (by decide) rfl
  have f_keyOf : F (ad 10) 27 = some (ad 41) := hL.mf 27 41 (by decide)
  have i_keyOf : ol_is ro (ad 41) (.inr (0, 40)) := hL.is 41 (by decide) (by decide) rfl
  intro d
  induction d with
  | zero =>
    intro j hm hR
    have hk6 : j = k := by omega
    subst hk6
    refine ol_iload C dX11_ask_65 rfl ?_
    refine ol_iload_n C dX11_ask_67 rfl rfl ?_
    refine ol_icmp_ge (tgt := 112) C dX11_ask_68 (by decide) (fun c_68 => ?_) (fun c_68 => absurd (Int32.le_refl (nI j)) c_68)
    refine ol_lv (lv' := [some (.ref (ad 10)), some (.int (nI g)), some (.int (nI j)), x3, some (.int (nI t)), none, none]) (by intro i v h; rcases i with _|_|_|_|_|_|_|i <;> first | exact h | (simp at h)) (ex hR.symm)
  | succ d ih =>
    intro j hm hR
    have hmk : j < k := by omega
    refine ol_iload C dX11_ask_65 rfl ?_
    refine ol_iload_n C dX11_ask_67 rfl rfl ?_
    refine ol_icmp_ge (tgt := 112) C dX11_ask_68 (by decide) (fun c_68 => absurd c_68 (nI_ge hmk (by omega))) (fun c_68 => ?_)
    refine ol_aload_n C dX11_ask_71 rfl rfl (by first | exact ol_isq_r _ | exact ol_isq_q _ | exact ol_isq_n) ?_
    refine ol_gR (k := 27) C (by assumption) rfl rfl wd_607 (.inl rfl) dX11_ask_72 ?_
    refine ol_rf (by assumption) ?_
    refine ol_iload C dX11_ask_75 rfl ?_
    refine ol_lI j C (by assumption) rfl (by omega) (by decide) dX11_ask_77 ?_
    refine ol_ti (hky j hmk) ?_
    refine ol_aload_n C dX11_ask_78 rfl rfl (by first | exact ol_isq_r _ | exact ol_isq_q _ | exact ol_isq_n) ?_
    refine ol_gI (k := 9) C (by assumption) rfl rfl wd_589 (.inl rfl) dX11_ask_79 ?_
    refine ol_ti htd ?_
    refine ol_icmp_ne (tgt := 106) C dX11_ask_82 (by decide) (fun c_82 => ?_) (fun c_82 => ?_)
    · refine ol_iincN C dX11_ask_106 rfl (by decide) ?_
      refine ol_goto (tgt := 65) C dX11_ask_109 (by decide) ?_
      exact ih (j + 1) (by omega) (by rw [← hR, sp_dk, ol_if_f c_82])
    · exact ex2 j (by rw [← hR, sp_dk, ol_if_t c_82]) hmk
end
section
section OLLJ
variable {ro : Nat → Nat} {F : Nat → Nat → Option Nat} {ad : Nat → Nat} {g n : Nat} {So : Nat → Nat} {T : Nat → Nat → Int32} {P : Nat → Nat → Option Nat} {I0 I : Nat → Nat → Int32} {b : ol_B} {kc kf : Nat}
theorem ol_LI.col (hL : ol_L ro F ad) (h : ol_LI ad g n So T P I0 I b kc kf) (hk : kc < 40) (x : Int32) : ol_LI ad g n So T P I0 (ol_u2 I (ad 34) (40 * g + kc) x) (b.1, b.2.1, ol_u2 b.2.2.1 0 kc x, b.2.2.2) (kc + 1) kf := by
  refine ⟨ol_MT.off hL h.1 _ _ (by decide) (by decide), ol_MG.vu hL (by decide) ?_, h.2.2.up _ (ol_tg_34 ad g hk)⟩
  obtain ⟨a1, a2, a3, a4, a5, a6, a7, a8⟩ := h.2.1
  unfold ol_MG
  dsimp only
  rw [ol_u2_a _ _ (show 31 ≠ 34 by decide), ol_u2_a _ _ (show 32 ≠ 34 by decide), ol_u2_a _ _ (show 33 ≠ 34 by decide), ol_u2_a _ _ (show 35 ≠ 34 by decide), ol_u2_a _ _ (show 36 ≠ 34 by decide), ol_u2_a _ _ (show 37 ≠ 34 by decide), ol_u2_a _ _ (show 38 ≠ 34 by decide), ol_u2_a _ _ (show 39 ≠ 34 by decide), ol_u2_a _ _ (show 40 ≠ 34 by decide), ol_u2_a _ _ (show 1 ≠ 0 by decide), ol_u2_a _ _ (show 2 ≠ 0 by decide)]
  refine ⟨a1, a2, a3, a4, a5, ?_, a7, a8⟩
  intro k hk2
  by_cases e : k = kc
  · subst e
    rw [ol_u2_s, ol_u2_s]
  · rw [ol_u2_k _ _ (by omega), ol_u2_k _ _ e]
    exact a6 k (by omega)
theorem ol_LI.fa (hL : ol_L ro F ad) (h : ol_LI ad g n So T P I0 I b kc kf) (hk : kf < 41) (hx : b.2.1 2 kf = b.2.1 0 1) : ol_LI ad g n So T P I0 (ol_u2 I (ad 35) (41 * g + kf) (nI (b.2.1 0 1))) b kc (kf + 1) := by
  refine ⟨ol_MT.off hL h.1 _ _ (by decide) (by decide), ol_MG.vu hL (by decide) ?_, h.2.2.up _ (ol_tg_35 ad g hk)⟩
  obtain ⟨a1, a2, a3, a4, a5, a6, a7, a8⟩ := h.2.1
  unfold ol_MG
  rw [ol_u2_a _ _ (show 31 ≠ 35 by decide), ol_u2_a _ _ (show 32 ≠ 35 by decide), ol_u2_a _ _ (show 33 ≠ 35 by decide), ol_u2_a _ _ (show 34 ≠ 35 by decide), ol_u2_a _ _ (show 36 ≠ 35 by decide), ol_u2_a _ _ (show 37 ≠ 35 by decide), ol_u2_a _ _ (show 38 ≠ 35 by decide), ol_u2_a _ _ (show 39 ≠ 35 by decide), ol_u2_a _ _ (show 40 ≠ 35 by decide)]
  refine ⟨a1, a2, a3, a4, a5, a6, ?_, a8⟩
  intro k hk2
  by_cases e : k = kf
  · subst e
    rw [ol_u2_s, hx]
  · rw [ol_u2_k _ _ (by omega)]
    exact a7 k (by omega)
theorem ol_LI.fa2 (h : ol_LI ad g n So T P I0 I b kc kf) (x : Nat) {j : Nat} (hj : kf ≤ j) : ol_LI ad g n So T P I0 I (b.1, ol_u2 b.2.1 2 j x, b.2.2) kc kf := by
  refine ⟨h.1, ?_, h.2.2⟩
  obtain ⟨a1, a2, a3, a4, a5, a6, a7, a8⟩ := h.2.1
  unfold ol_MG
  dsimp only
  rw [ol_u2_a _ _ (show 0 ≠ 2 by decide), ol_u2_a _ _ (show 1 ≠ 2 by decide), ol_u2_a _ _ (show 3 ≠ 2 by decide)]
  exact ⟨a1, a2, a3, a4, a5, a6, fun k hk => by rw [ol_u2_k _ _ (by omega)]; exact a7 k hk, a8⟩
end OLLJ
/-- what came out of asking, as the reference holds it -/
def ol_ao (ad : Nat → Nat) (g n : Nat) (So : Nat → Nat) (T : Nat → Nat → Int32) (P : Nat → Nat → Option Nat) (I0 : Nat → Nat → Int32) (R : ol_B × ol_Fl) (k : Nat) (K : Nat → Int32) (v : Int32) (I' : Nat → Nat → Int32) : Prop :=
  (R.2 = none ∧ v = 0 ∧ ol_LI ad g n So T P I0 I' R.1 (k + 1) (k + 1) ∧ I' (ad 41) = K) ∨ ∃ (u : Nat) (o : Option Nat) (z : Int32) (I2 : Nat → Nat → Int32) (kc kf : Nat), R.2 = some (u, o, z) ∧ (z = 1 ∨ z = 2 ∨ z = 3 ∨ z = 4 ∨ z = 6) ∧ v = -1000010 - z ∧ ol_LI ad g n So T P I0 I2 R.1 kc kf ∧ I' = ol_rfu I2 ad (nI u) (ol_e o) z
theorem sp_vc_r {So : Nat → Nat} {T : Nat → Nat → Int32} {t : Nat} (h : ¬ sp_vc So T t = 0) : sp_vc So T t = 1 ∨ sp_vc So T t = 2 ∨ sp_vc So T t = 3 ∨ sp_vc So T t = 4 ∨ sp_vc So T t = 6 := by
  unfold sp_vc at h ⊢
  rcases ol_if_or (So t = 3 ∧ T 2 t = 0) (4 : Int32) 0 with q | q
  · rw [q]; simp
  · exact absurd q h
theorem sp_kc_r {So : Nat → Nat} {T : Nat → Nat → Int32} {t : Nat} (h : ¬ sp_kc So T t = 0) : sp_kc So T t = 1 ∨ sp_kc So T t = 2 ∨ sp_kc So T t = 3 ∨ sp_kc So T t = 4 ∨ sp_kc So T t = 6 := by
  unfold sp_kc at h ⊢
  exact Or.inl (ol_p_t (ol_p_n.mp h))
theorem sp_lc_r {So : Nat → Nat} {T : Nat → Nat → Int32} {P : Nat → Nat → Option Nat} {t : Nat} (h : ¬ sp_lc So T P t = 0) : sp_lc So T P t = 1 ∨ sp_lc So T P t = 2 ∨ sp_lc So T P t = 3 ∨ sp_lc So T P t = 4 ∨ sp_lc So T P t = 6 := by
  unfold sp_lc at h ⊢
  rcases ol_if_or (So t = 5) (ol_if (ol_k 6 (T 2 t)) (0 : Int32) 2) (ol_if (So t = 1 ∨ So t = 4) (ol_if (So t = 4 ∧ ∃ i, i < 6 ∧ ol_br So (P (1 + i) t)) 3 0) (ol_if (ol_br So (P 0 t)) 3 0)) with q | q <;> rw [q] at h ⊢
  · rcases ol_if_or (ol_k 6 (T 2 t)) (0 : Int32) 2 with q | q <;> rw [q] at h ⊢
    · exact absurd rfl h
    · simp
  · rcases ol_if_or (So t = 1 ∨ So t = 4) (ol_if (So t = 4 ∧ ∃ i, i < 6 ∧ ol_br So (P (1 + i) t)) (3 : Int32) 0) (ol_if (ol_br So (P 0 t)) 3 0) with q | q <;> rw [q] at h ⊢
    · rcases ol_if_or (So t = 4 ∧ ∃ i, i < 6 ∧ ol_br So (P (1 + i) t)) (3 : Int32) 0 with q | q <;> rw [q] at h ⊢
      · simp
      · exact absurd rfl h
    · rcases ol_if_or (ol_br So (P 0 t)) (3 : Int32) 0 with q | q <;> rw [q] at h ⊢
      · simp
      · exact absurd rfl h
theorem sp_n2_none {So : Nat → Nat} {T : Nat → Nat → Int32} {P : Nat → Nat → Option Nat} {k t : Nat} {b : ol_B} (hv0 : sp_vc So T t = 0) (hl0 : sp_lc So T P t = 0) (h : (sp_ls So T P t (sp_ln So P t) 0 (sp_ask (va_up b.1 t (b.1 t + 1), b.2.1, ol_u2 b.2.2.1 0 k (sp_vv So T t), b.2.2.2) t)).2 = none) : sp_n2 So T P k t b = (((sp_ls So T P t (sp_ln So P t) 0 (sp_ask (va_up b.1 t (b.1 t + 1), b.2.1, ol_u2 b.2.2.1 0 k (sp_vv So T t), b.2.2.2) t)).1.1, ol_u2 (sp_ls So T P t (sp_ln So P t) 0 (sp_ask (va_up b.1 t (b.1 t + 1), b.2.1, ol_u2 b.2.2.1 0 k (sp_vv So T t), b.2.2.2) t)).1.2.1 2 (k + 1) ((sp_ls So T P t (sp_ln So P t) 0 (sp_ask (va_up b.1 t (b.1 t + 1), b.2.1, ol_u2 b.2.2.1 0 k (sp_vv So T t), b.2.2.2) t)).1.2.1 0 1), (sp_ls So T P t (sp_ln So P t) 0 (sp_ask (va_up b.1 t (b.1 t + 1), b.2.1, ol_u2 b.2.2.1 0 k (sp_vv So T t), b.2.2.2) t)).1.2.2), none) := by
  unfold sp_n2
  rw [ol_if_t hv0]
  unfold sp_n3
  rw [ol_if_t hl0]
  revert h
  cases sp_ls So T P t (sp_ln So P t) 0 (sp_ask (va_up b.1 t (b.1 t + 1), b.2.1, ol_u2 b.2.2.1 0 k (sp_vv So T t), b.2.2.2) t) with
  | mk b4 f =>
    intro h
    dsimp only at h
    subst h
    rfl
theorem sp_n2_some {So : Nat → Nat} {T : Nat → Nat → Int32} {P : Nat → Nat → Option Nat} {k t : Nat} {b : ol_B} {q : Nat × Int32} (hv0 : sp_vc So T t = 0) (hl0 : sp_lc So T P t = 0) (h : (sp_ls So T P t (sp_ln So P t) 0 (sp_ask (va_up b.1 t (b.1 t + 1), b.2.1, ol_u2 b.2.2.1 0 k (sp_vv So T t), b.2.2.2) t)).2 = some q) : sp_n2 So T P k t b = ((sp_ls So T P t (sp_ln So P t) 0 (sp_ask (va_up b.1 t (b.1 t + 1), b.2.1, ol_u2 b.2.2.1 0 k (sp_vv So T t), b.2.2.2) t)).1, some (q.1, none, q.2)) := by
  unfold sp_n2
  rw [ol_if_t hv0]
  unfold sp_n3
  rw [ol_if_t hl0]
  revert h
  cases sp_ls So T P t (sp_ln So P t) 0 (sp_ask (va_up b.1 t (b.1 t + 1), b.2.1, ol_u2 b.2.2.1 0 k (sp_vv So T t), b.2.2.2) t) with
  | mk b4 f =>
    intro h
    dsimp only at h
    subst h
    rfl
end
section
set_option maxRecDepth 100000 in
set_option maxHeartbeats 4000000 in
theorem tl_ask {p : Program} {l : Launch} {e : Env} {s : State} {m : MethodId} {args : Array Value} {below : List Frame} {meth : Method} {c : Code} {D : va_G} {cA : Nat → ClassId} {ro : Nat → Nat} {F : Nat → Nat → Option Nat} {post : Option Value → (Nat → Nat) → (Nat → Nat → Int32) → (Nat → Nat → Option Nat) → Prop} (C : ol_Cx p s m args c cX11_ask 7 yX11_ask.cls D cA (ol_fr ro s.heap.size)) (hret : meth.sig.returnType = some .int) (hlk : meth.locks = false) {ad : Nat → Nat} (hL : ol_L ro F ad) {g n : Nat} {So : Nat → Nat} {T : Nat → Nat → Int32} {P : Nat → Nat → Option Nat} (hV : ol_V n So T P) (hg : g < 2) {I0 : Nat → Nat → Int32} {I : Nat → Nat → Int32} {b : ol_B} {k t : Nat} (hI : ol_LI ad g n So T P I0 I b k k) (hB : ol_BW n So b (6 * k)) (hk40 : k < 40) (ht : t < n) (hfa : b.2.1 2 k = b.2.1 0 1) {x3 : Option Value} (hp : ∀ (v : Int32) (I' : Nat → Nat → Int32), ol_ao ad g n So T P I0 (sp_n2 So T P k t b) k (I (ad 41)) v I' → post (some (.int v)) ro I' F) : ol_W p l e (ol_r 3 0 0) s m args below meth c D cA (ol_fr ro s.heap.size) (ol_Q D cA below args s (ol_r 3 0 0) ro post) 7 ro I F 0 0 112 [some (.ref (ad 10)), some (.int (nI g)), some (.int (nI k)), x3, some (.int (nI t)), none, none] [] := by
  have hm : ol_is ro (ad 10) (.inl 9) := hL.is 10 (by decide) (by decide) rfl
  have f_askedOf : F (ad 10) 7 = some (ad 28) := hL.mf 7 28 (by decide)
  have i_askedOf : ol_is ro (ad 28) (.inr (0, 40)) := hL.is 28 (by decide) (by decide) rfl
  have f_links : F (ad 10) 10 = some (ad 30) := hL.mf 10 30 (by decide)
  have i_links : ol_is ro (ad 30) (.inr (0, 6)) := hL.is 30 (by decide) (by decide) rfl
  have f_thingOf : F (ad 10) 14 = some (ad 32) := hL.mf 14 32 (by decide)
  have i_thingOf : ol_is ro (ad 32) (.inr (0, 80)) := hL.is 32 (by decide) (by decide) rfl
  have f_columns : F (ad 10) 16 = some (ad 34) := hL.mf 16 34 (by decide)
  have i_columns : ol_is ro (ad 34) (.inr (0, 80)) := hL.is 34 (by decide) (by decide) rfl
  have f_firstArc : F (ad 10) 17 = some (ad 35) := hL.mf 17 35 (by decide)
  have i_firstArc : ol_is ro (ad 35) (.inr (0, 82)) := hL.is 35 (by decide) (by decide) rfl
  have f_arcsIn : F (ad 10) 18 = some (ad 36) := hL.mf 18 36 (by decide)
  have i_arcsIn : ol_is ro (ad 36) (.inr (0, 2)) := hL.is 36 (by decide) (by decide) rfl
  have f_keyOf : F (ad 10) 27 = some (ad 41) := hL.mf 27 41 (by decide)
  have i_keyOf : ol_is ro (ad 41) (.inr (0, 40)) := hL.is 41 (by decide) (by decide) rfl
  have h40 := hV.1
  have n41_28 : ad 41 ≠ ad 28 := hL.ne (by decide) (by decide) (by decide)
  have n41_10 : ad 41 ≠ ad 10 := hL.ne (by decide) (by decide) (by decide)
  have n41_34 : ad 41 ≠ ad 34 := hL.ne (by decide) (by decide) (by decide)
  have n41_35 : ad 41 ≠ ad 35 := hL.ne (by decide) (by decide) (by decide)
  have n41_30 : ad 41 ≠ ad 30 := hL.ne (by decide) (by decide) (by decide)
  have n10_28 : ad 10 ≠ ad 28 := hL.ne (by decide) (by decide) (by decide)
  have n10_34 : ad 10 ≠ ad 34 := hL.ne (by decide) (by decide) (by decide)
  have n10_35 : ad 10 ≠ ad 35 := hL.ne (by decide) (by decide) (by decide)
  have n30_28 : ad 30 ≠ ad 28 := hL.ne (by decide) (by decide) (by decide)
  have n30_34 : ad 30 ≠ ad 34 := hL.ne (by decide) (by decide) (by decide)
  have n30_35 : ad 30 ≠ ad 35 := hL.ne (by decide) (by decide) (by decide)
  have n30_10 : ad 30 ≠ ad 10 := hL.ne (by decide) (by decide) (by decide)
  refine ol_aload_n C dX11_ask_112 rfl rfl (by first | exact ol_isq_r _ | exact ol_isq_q _ | exact ol_isq_n) ?_
  refine ol_gR (k := 7) C (by assumption) rfl rfl wd_587 (.inl rfl) dX11_ask_113 ?_
  refine ol_rf (by assumption) ?_
  refine ol_iload C dX11_ask_116 rfl ?_
  refine ol_dup2 C dX11_ask_118 (by first | rfl | exact ol_rfc _) (by first | rfl | exact ol_rfc _) ?_
  refine ol_lI t C (by assumption) rfl (by omega) (by decide) dX11_ask_119 ?_
  refine ol_ti (hI.asked ht) ?_
  refine ol_iconst (v := 1) C dX11_ask_120 (by decide) ?_
  refine ol_iadd C dX11_ask_121 ?_
  refine ol_sI t C (by assumption) rfl (by omega) (by decide) dX11_ask_122 ?_
  have hI1 := hI.ask hL t
  refine ol_aload_n C dX11_ask_123 rfl rfl (by first | exact ol_isq_r _ | exact ol_isq_q _ | exact ol_isq_n) ?_
  refine ol_iload C dX11_ask_124 rfl ?_
  refine ol_callV C (mm_tVal l D cA hL hI1.1 hV ht) hm.1 hm.2 rfl wd_738 wd_4 wd_735 wd_737 wq_18 mh_X11_tellValue (by decide) rfl (by first | exact Nat.le_of_ble_eq_true rfl | simp [ol_rfc, Value.category]) dX11_ask_126 (ol_xi ?_)
  have hI2 := hI1.sq hL ((ol_sq_rf ad _).up (sp_vv So (va_up T 4 (sp_ask b t).1) t) (Or.inl ⟨rfl, Or.inl rfl⟩))
  refine ol_istore C dX11_ask_129 (by decide) ?_
  refine ol_iload C dX11_ask_131 rfl ?_
  refine ol_if_le (tgt := 147) C dX11_ask_133 (by decide) (fun c_133 => ?_) (fun c_133 => ?_)
  · have hv0 : sp_vc So T t = 0 := (sp_v0 So T t).mp c_133
    refine ol_aload_n C dX11_ask_147 rfl rfl (by first | exact ol_isq_r _ | exact ol_isq_q _ | exact ol_isq_n) ?_
    refine ol_gR (k := 16) C (by assumption) rfl rfl wd_596 (.inl rfl) dX11_ask_148 ?_
    refine ol_rf (by assumption) ?_
    refine ol_bipush (v := 40) C dX11_ask_151 (by decide) ?_
    refine ol_iload_n C dX11_ask_153 rfl rfl ?_
    refine ol_imul C dX11_ask_154 ?_
    refine ol_iload_n C dX11_ask_155 rfl rfl ?_
    refine ol_iadd C dX11_ask_156 ?_
    refine ol_aload_n C dX11_ask_157 rfl rfl (by first | exact ol_isq_r _ | exact ol_isq_q _ | exact ol_isq_n) ?_
    refine ol_gI (k := 9) C (by assumption) rfl rfl wd_589 (.inl rfl) dX11_ask_158 ?_
    rw [ol_u2_s]
    refine ol_sI (40 * g + k) C (by assumption) (ol_ma rfl) (by omega) (by decide) dX11_ask_161 ?_
    have hI3 := hI2.col hL hk40 (sp_vv So T t)
    refine ol_aload_n C dX11_ask_162 rfl rfl (by first | exact ol_isq_r _ | exact ol_isq_q _ | exact ol_isq_n) ?_
    refine ol_gR (k := 7) C (by assumption) rfl rfl wd_587 (.inl rfl) dX11_ask_163 ?_
    refine ol_rf (by assumption) ?_
    refine ol_iload C dX11_ask_166 rfl ?_
    refine ol_dup2 C dX11_ask_168 (by first | rfl | exact ol_rfc _) (by first | rfl | exact ol_rfc _) ?_
    refine ol_lI t C (by assumption) rfl (by omega) (by decide) dX11_ask_169 ?_
    refine ol_ti (hI3.asked ht) ?_
    refine ol_iconst (v := 1) C dX11_ask_170 (by decide) ?_
    refine ol_iadd C dX11_ask_171 ?_
    refine ol_sI t C (by assumption) rfl (by omega) (by decide) dX11_ask_172 ?_
    have hI4 := hI3.ask hL t
    refine ol_aload_n C dX11_ask_173 rfl rfl (by first | exact ol_isq_r _ | exact ol_isq_q _ | exact ol_isq_n) ?_
    refine ol_iload C dX11_ask_174 rfl ?_
    refine ol_callV C (mm_tellLinks l D cA hL hI4.1 hV ht) hm.1 hm.2 rfl wd_742 wd_4 wd_739 wd_741 wq_19 mh_X11_tellLinks (by decide) rfl (by first | exact Nat.le_of_ble_eq_true rfl | simp [ol_rfc, Value.category]) dX11_ask_176 (fun v_176 ro_176 I_176 F_176 hh_176 => ?_)
    obtain ⟨rfl, rfl, rfl, q1, q2⟩ := hh_176
    have hI5 := hI4.sq hL q1
    have k41 : I_176 (ad 41) = I (ad 41) := by
      funext z
      rw [q1.row hL 41 z (by decide) (by decide) (by decide) (by decide), ol_u2_a _ _ n41_28, ol_u2_a _ _ n41_34, ol_u2_a _ _ n41_10, ol_u2_a _ _ n41_28]
    refine ol_st (st' := .int _ :: _) rfl ?_
    refine ol_istore C dX11_ask_179 (by decide) ?_
    refine ol_iload C dX11_ask_181 rfl ?_
    refine ol_if_le (tgt := 197) C dX11_ask_183 (by decide) (fun c_183 => ?_) (fun c_183 => ?_)
    · have hl0 : sp_lc So T P t = 0 := (sp_l0 So T P t).mp c_183
      obtain ⟨y1, y2⟩ := q2 hl0
      refine ol_aload_n C dX11_ask_197 rfl rfl (by first | exact ol_isq_r _ | exact ol_isq_q _ | exact ol_isq_n) ?_
      refine ol_gR (k := 17) C (by assumption) rfl rfl wd_597 (.inl rfl) dX11_ask_198 ?_
      refine ol_rf (by assumption) ?_
      refine ol_bipush (v := 41) C dX11_ask_201 (by decide) ?_
      refine ol_iload_n C dX11_ask_203 rfl rfl ?_
      refine ol_imul C dX11_ask_204 ?_
      refine ol_iload_n C dX11_ask_205 rfl rfl ?_
      refine ol_iadd C dX11_ask_206 ?_
      refine ol_aload_n C dX11_ask_207 rfl rfl (by first | exact ol_isq_r _ | exact ol_isq_q _ | exact ol_isq_n) ?_
      refine ol_gR (k := 18) C (by assumption) rfl rfl wd_598 (.inl rfl) dX11_ask_208 ?_
      refine ol_rf (by assumption) ?_
      refine ol_iload_n C dX11_ask_211 rfl rfl ?_
      refine ol_lI g C (by assumption) rfl hg (by decide) dX11_ask_212 ?_
      refine ol_ti (show I_176 (ad 36) g = nI (b.2.1 0 1) from hI5.2.1.2.1) ?_
      refine ol_sI (41 * g + k) C (by assumption) (ol_ma rfl) (by omega) (by decide) dX11_ask_213 ?_
      have hI6 := hI5.fa hL (by omega) hfa
      refine ol_aload_n C dX11_ask_214 rfl rfl (by first | exact ol_isq_r _ | exact ol_isq_q _ | exact ol_isq_n) ?_
      refine ol_iload_n C dX11_ask_215 rfl rfl ?_
      refine ol_iload C dX11_ask_216 rfl ?_
      refine ol_callV C (mm_arcsOf l D cA hL hV hg hI6 (M := 6 * k) hB ht hl0 (by omega) (by rw [ol_u2_a _ _ n10_35]; exact y1) (by rw [ol_u2_a _ _ n30_35]; exact y2)) hm.1 hm.2 rfl wd_746 wd_4 wd_743 wd_745 wq_20 mh_X11_arcsOf (by decide) rfl (by first | exact Nat.le_of_ble_eq_true rfl | simp [ol_rfc, Value.category]) dX11_ask_218 (fun v_218 ro_218 I_218 F_218 hh_218 => ?_)
      obtain ⟨rfl, rfl, hh⟩ := hh_218
      rcases hh with ⟨h1, rfl, h2, h3⟩ | ⟨u, z, I2, h1, hz, rfl, h2, rfl⟩
      · refine ol_st (st' := [.int _]) rfl ?_
        refine ol_iret C hret hlk rfl (by decide) (by decide) dX11_ask_221 (hp _ _ (Or.inl ?_))
        have eR := sp_n2_none (k := k) (b := b) hv0 hl0 h1
        rw [eR]
        exact ⟨rfl, rfl, h2.fa2 _ (Nat.le_refl _), by rw [h3, ol_u2_a _ _ n41_35]; exact k41⟩
      · refine ol_st (st' := [.int _]) rfl ?_
        refine ol_iret C hret hlk rfl (by decide) (by decide) dX11_ask_221 (hp _ _ (Or.inr ⟨u, none, z, I2, k + 1, k + 1, ?_⟩))
        have eR := sp_n2_some (k := k) (b := b) hv0 hl0 h1
        rw [eR]
        exact ⟨rfl, by rcases hz with rfl | rfl <;> simp, rfl, h2, rfl⟩
    · have hl0 : ¬ sp_lc So T P t = 0 := fun q => c_183 ((sp_l0 So T P t).mpr q)
      refine ol_aload_n C dX11_ask_186 rfl rfl (by first | exact ol_isq_r _ | exact ol_isq_q _ | exact ol_isq_n) ?_
      refine ol_iload C dX11_ask_187 rfl ?_
      refine ol_ldc (v := (-1000009)) C wd_677 dX11_ask_189 ?_
      refine ol_iload C dX11_ask_191 rfl ?_
      refine ol_callV C (mm_refuse l D cA hL (nI t) (-1000009) (sp_lc So T P t)) hm.1 hm.2 rfl wd_733 wd_4 wd_730 wd_732 wq_17 mh_X11_refuse (by decide) rfl (by first | exact Nat.le_of_ble_eq_true rfl | simp [ol_rfc, Value.category]) dX11_ask_193 (ol_xi ?_)
      exact ol_iret C hret hlk rfl (by decide) (by decide) dX11_ask_196 (hp _ _ (Or.inr ⟨t, none, sp_lc So T P t, _, _, _, by unfold sp_n2; rw [ol_if_t hv0]; unfold sp_n3; rw [ol_if_f hl0], sp_lc_r hl0, rfl, by unfold sp_n2; rw [ol_if_t hv0]; unfold sp_n3; rw [ol_if_f hl0]; exact hI5, rfl⟩))
  · have hv0 : ¬ sp_vc So T t = 0 := fun q => c_133 ((sp_v0 So T t).mpr q)
    refine ol_aload_n C dX11_ask_136 rfl rfl (by first | exact ol_isq_r _ | exact ol_isq_q _ | exact ol_isq_n) ?_
    refine ol_iload C dX11_ask_137 rfl ?_
    refine ol_ldc (v := (-1000009)) C wd_677 dX11_ask_139 ?_
    refine ol_iload C dX11_ask_141 rfl ?_
    refine ol_callV C (mm_refuse l D cA hL (nI t) (-1000009) (sp_vc So T t)) hm.1 hm.2 rfl wd_733 wd_4 wd_730 wd_732 wq_17 mh_X11_refuse (by decide) rfl (by first | exact Nat.le_of_ble_eq_true rfl | simp [ol_rfc, Value.category]) dX11_ask_143 (ol_xi ?_)
    exact ol_iret C hret hlk rfl (by decide) (by decide) dX11_ask_146 (hp _ _ (Or.inr ⟨t, none, sp_vc So T t, _, _, _, by unfold sp_n2; rw [ol_if_f hv0], sp_vc_r hv0, rfl, by unfold sp_n2; rw [ol_if_f hv0]; exact hI2, rfl⟩))
end
section
set_option maxRecDepth 100000 in
set_option maxHeartbeats 4000000 in
theorem mm_ask (l : Launch) (D : va_G) (cA : Nat → ClassId) {ro : Nat → Nat} {I : Nat → Nat → Int32} {F : Nat → Nat → Option Nat} {ad : Nat → Nat} (hL : ol_L ro F ad) {g n : Nat} {So : Nat → Nat} {T : Nat → Nat → Int32} {P : Nat → Nat → Option Nat} (hV : ol_V n So T P) (hg : g < 2) {I0 : Nat → Nat → Int32} {b : ol_B} {k : Nat} (hI : ol_LI ad g n So T P I0 I b k k) (hB : ol_BW n So b (6 * k)) (hk : k < b.2.1 0 0) (hfa : b.2.1 2 k = b.2.1 0 1) (bk : Int32) (hky : ¬ bk = 0 → ∀ j, j < k → I (ad 41) j = T 1 (b.2.1 1 j)) : ol_M l D cA yX11_ask cX11_ask 7 (some FieldType.int) (ol_r 3 0 0) [.ref (ad 10), .int (nI g), .int (nI k), .int bk] ro I F (fun v ro' I' F' => ro' = ro ∧ F' = F ∧ ∃ (w : Int32) (K : Nat → Int32), v = some (.int w) ∧ ol_ao ad g n So T P I0 (sp_nd So T P (¬ bk = 0) k b) k K w I' ∧ (¬ bk = 0 → ∀ j, j < k + 1 → K j = T 1 (b.2.1 1 j))) := by
  refine ol_M.of (by decide +kernel) (Nat.le_of_ble_eq_true rfl) (by simp [Value.category, ol_rfc]) ?_
  intro p e s m args below meth c C hret hlk hin
  have hm : ol_is ro (ad 10) (.inl 9) := hL.is 10 (by decide) (by decide) rfl
  have f_askedOf : F (ad 10) 7 = some (ad 28) := hL.mf 7 28 (by decide)
  have i_askedOf : ol_is ro (ad 28) (.inr (0, 40)) := hL.is 28 (by decide) (by decide) rfl
  have f_thingOf : F (ad 10) 14 = some (ad 32) := hL.mf 14 32 (by decide)
  have i_thingOf : ol_is ro (ad 32) (.inr (0, 80)) := hL.is 32 (by decide) (by decide) rfl
  have f_columns : F (ad 10) 16 = some (ad 34) := hL.mf 16 34 (by decide)
  have i_columns : ol_is ro (ad 34) (.inr (0, 80)) := hL.is 34 (by decide) (by decide) rfl
  have f_firstArc : F (ad 10) 17 = some (ad 35) := hL.mf 17 35 (by decide)
  have i_firstArc : ol_is ro (ad 35) (.inr (0, 82)) := hL.is 35 (by decide) (by decide) rfl
  have f_arcsIn : F (ad 10) 18 = some (ad 36) := hL.mf 18 36 (by decide)
  have i_arcsIn : ol_is ro (ad 36) (.inr (0, 2)) := hL.is 36 (by decide) (by decide) rfl
  have f_keyOf : F (ad 10) 27 = some (ad 41) := hL.mf 27 41 (by decide)
  have i_keyOf : ol_is ro (ad 41) (.inr (0, 40)) := hL.is 41 (by decide) (by decide) rfl
  have h40 := hV.1
  have hle := hB.le
  have hk40 : k < 40 := by omega
  have ht : b.2.1 1 k < n := (hB.2.1 k hk).1
  have n41_28 : ad 41 ≠ ad 28 := hL.ne (by decide) (by decide) (by decide)
  have n41_10 : ad 41 ≠ ad 10 := hL.ne (by decide) (by decide) (by decide)
  have n10_41 : ad 10 ≠ ad 41 := hL.ne (by decide) (by decide) (by decide)
  have n32_41 : ad 32 ≠ ad 41 := hL.ne (by decide) (by decide) (by decide)
  have n32_10 : ad 32 ≠ ad 10 := hL.ne (by decide) (by decide) (by decide)
  have n32_28 : ad 32 ≠ ad 28 := hL.ne (by decide) (by decide) (by decide)
  refine ol_aload_n C dX11_ask_0 rfl rfl (by first | exact ol_isq_r _ | exact ol_isq_q _ | exact ol_isq_n) ?_
  refine ol_gR (k := 14) C (by assumption) rfl rfl wd_594 (.inl rfl) dX11_ask_1 ?_
  refine ol_rf (by assumption) ?_
  refine ol_bipush (v := 40) C dX11_ask_4 (by decide) ?_
  refine ol_iload_n C dX11_ask_6 rfl rfl ?_
  refine ol_imul C dX11_ask_7 ?_
  refine ol_iload_n C dX11_ask_8 rfl rfl ?_
  refine ol_iadd C dX11_ask_9 ?_
  refine ol_lI (40 * g + k) C (by assumption) (ol_ma rfl) (by omega) (by decide) dX11_ask_10 ?_
  refine ol_ti (hI.2.1.2.2.2.1 k hk) ?_
  refine ol_istore C dX11_ask_11 (by decide) ?_
  refine ol_iload_n C dX11_ask_13 rfl rfl ?_
  refine ol_if_eq (tgt := 112) C dX11_ask_14 (by decide) (fun c_14 => ?_) (fun c_14 => ?_)
  · refine ol_lv (lv' := [some (.ref (ad 10)), some (.int (nI g)), some (.int (nI k)), some (.int bk), some (.int (nI (b.2.1 1 k))), none, none]) (by intro i v h; rcases i with _|_|_|_|_|_|_|i <;> first | exact h | (simp at h)) ?_
    have eR : sp_nd So T P (¬ bk = 0) k b = sp_n2 So T P k (b.2.1 1 k) b := by unfold sp_nd; rw [ol_if_f (fun q => q c_14)]
    exact tl_ask C hret hlk hL hV hg hI hB hk40 ht hfa (fun v I' h => ⟨rfl, rfl, v, _, rfl, by rw [eR]; exact h, fun q => absurd c_14 q⟩)
  · refine ol_aload_n C dX11_ask_17 rfl rfl (by first | exact ol_isq_r _ | exact ol_isq_q _ | exact ol_isq_n) ?_
    refine ol_gR (k := 7) C (by assumption) rfl rfl wd_587 (.inl rfl) dX11_ask_18 ?_
    refine ol_rf (by assumption) ?_
    refine ol_iload C dX11_ask_21 rfl ?_
    refine ol_dup2 C dX11_ask_23 (by first | rfl | exact ol_rfc _) (by first | rfl | exact ol_rfc _) ?_
    refine ol_lI (b.2.1 1 k) C (by assumption) rfl (by omega) (by decide) dX11_ask_24 ?_
    refine ol_ti (hI.asked ht) ?_
    refine ol_iconst (v := 1) C dX11_ask_25 (by decide) ?_
    refine ol_iadd C dX11_ask_26 ?_
    refine ol_sI (b.2.1 1 k) C (by assumption) rfl (by omega) (by decide) dX11_ask_27 ?_
    have hI1 := hI.ask hL (b.2.1 1 k)
    refine ol_aload_n C dX11_ask_28 rfl rfl (by first | exact ol_isq_r _ | exact ol_isq_q _ | exact ol_isq_n) ?_
    refine ol_iload C dX11_ask_29 rfl ?_
    refine ol_callV C (mm_tKey l D cA hL hI1.1 hV ht) hm.1 hm.2 rfl wd_729 wd_4 wd_726 wd_728 wq_16 mh_X11_tellKey (by decide) rfl (by first | exact Nat.le_of_ble_eq_true rfl | simp [ol_rfc, Value.category]) dX11_ask_31 (ol_xi ?_)
    have hI2 := hI1.sq hL ((ol_sq_rf ad _).up (T 1 (b.2.1 1 k)) (Or.inl ⟨rfl, Or.inl rfl⟩))
    refine ol_istore C dX11_ask_34 (by decide) ?_
    refine ol_iload C dX11_ask_36 rfl ?_
    refine ol_if_le (tgt := 52) C dX11_ask_38 (by decide) (fun c_38 => ?_) (fun c_38 => ?_)
    · have hk0 : sp_kc So T (b.2.1 1 k) = 0 := (sp_k0 So T _).mp c_38
      refine ol_aload_n C dX11_ask_52 rfl rfl (by first | exact ol_isq_r _ | exact ol_isq_q _ | exact ol_isq_n) ?_
      refine ol_gR (k := 27) C (by assumption) rfl rfl wd_607 (.inl rfl) dX11_ask_53 ?_
      refine ol_rf (by assumption) ?_
      refine ol_iload_n C dX11_ask_56 rfl rfl ?_
      refine ol_aload_n C dX11_ask_57 rfl rfl (by first | exact ol_isq_r _ | exact ol_isq_q _ | exact ol_isq_n) ?_
      refine ol_gI (k := 9) C (by assumption) rfl rfl wd_589 (.inl rfl) dX11_ask_58 ?_
      rw [ol_u2_s]
      refine ol_sI k C (by assumption) rfl (by omega) (by decide) dX11_ask_61 ?_
      refine ol_iconst (v := 0) C dX11_ask_62 (by decide) ?_
      refine ol_istore C dX11_ask_63 (by decide) ?_
      have hb : ¬ bk = 0 := c_14
      have hI3 := hI2.off41 hL k (T 1 (b.2.1 1 k))
      have k41 : ∀ j, j < k + 1 → ol_u2 (ol_u2 (ol_u2 I (ad 28) (b.2.1 1 k) (b.1 (b.2.1 1 k) + 1)) (ad 10) 9 (T 1 (b.2.1 1 k))) (ad 41) k (T 1 (b.2.1 1 k)) (ad 41) j = T 1 (b.2.1 1 j) := by
        intro j hj
        by_cases e : j = k
        · subst e
          exact ol_u2_s _ _ _ _
        · rw [ol_u2_k _ _ e, ol_u2_a _ _ n41_10, ol_u2_a _ _ n41_28]
          exact hky hb j (by omega)
      refine lp_keys C hL (T := T) (N1 := b.2.1 1) (t := b.2.1 1 k) (Rs := sp_dk T (b.2.1 1) (b.2.1 1 k) k 0) hg hk40 (fun j hj => k41 j (by omega)) (by rw [ol_u2_a _ _ n10_41, ol_u2_s]) (fun j hj => by rw [ol_u2_a _ _ n32_41, ol_u2_a _ _ n32_10, ol_u2_a _ _ n32_28]; exact hI.2.1.2.2.2.1 j (by omega)) (fun hR => ?_) (fun j hR hj => ?_) k 0 (by omega) rfl
      · have eR : sp_nd So T P (¬ bk = 0) k b = sp_n2 So T P k (b.2.1 1 k) (sp_ask b (b.2.1 1 k)) := by unfold sp_nd; rw [ol_if_t hb, ol_if_t hk0, hR]
        exact tl_ask C hret hlk hL hV hg hI3 (hB.ask _) hk40 ht hfa (fun v I' h => ⟨rfl, rfl, v, _, rfl, by rw [eR]; exact h, fun _ => k41⟩)
      · have eR : sp_nd So T P (¬ bk = 0) k b = (sp_ask b (b.2.1 1 k), some (b.2.1 1 k, some (b.2.1 1 j), 6)) := by unfold sp_nd; rw [ol_if_t hb, ol_if_t hk0, hR]
        refine ol_aload_n C dX11_ask_85 rfl rfl (by first | exact ol_isq_r _ | exact ol_isq_q _ | exact ol_isq_n) ?_
        refine ol_iload C dX11_ask_86 rfl ?_
        refine ol_aload_n C dX11_ask_88 rfl rfl (by first | exact ol_isq_r _ | exact ol_isq_q _ | exact ol_isq_n) ?_
        refine ol_gR (k := 14) C (by assumption) rfl rfl wd_594 (.inl rfl) dX11_ask_89 ?_
        refine ol_rf (by assumption) ?_
        refine ol_bipush (v := 40) C dX11_ask_92 (by decide) ?_
        refine ol_iload_n C dX11_ask_94 rfl rfl ?_
        refine ol_imul C dX11_ask_95 ?_
        refine ol_iload C dX11_ask_96 rfl ?_
        refine ol_iadd C dX11_ask_98 ?_
        refine ol_lI (40 * g + j) C (by assumption) (ol_ma rfl) (by omega) (by decide) dX11_ask_99 ?_
        rw [ol_u2_a _ _ n32_41, ol_u2_a _ _ n32_10, ol_u2_a _ _ n32_28]
        refine ol_ti (hI.2.1.2.2.2.1 j (by omega)) ?_
        refine ol_bipush (v := 6) C dX11_ask_100 (by decide) ?_
        refine ol_callV C (mm_refuse l D cA hL (nI (b.2.1 1 k)) (nI (b.2.1 1 j)) 6) hm.1 hm.2 rfl wd_733 wd_4 wd_730 wd_732 wq_17 mh_X11_refuse (by decide) rfl (by first | exact Nat.le_of_ble_eq_true rfl | simp [ol_rfc, Value.category]) dX11_ask_102 (ol_xi ?_)
        exact ol_iret C hret hlk rfl (by decide) (by decide) dX11_ask_105 ⟨rfl, rfl, _, _, rfl, Or.inr ⟨b.2.1 1 k, some (b.2.1 1 j), 6, _, _, _, by rw [eR], by simp, rfl, by rw [eR]; exact hI3, rfl⟩, fun _ => k41⟩
    · have hk0 : ¬ sp_kc So T (b.2.1 1 k) = 0 := fun q => c_38 ((sp_k0 So T _).mpr q)
      have eR : sp_nd So T P (¬ bk = 0) k b = (sp_ask b (b.2.1 1 k), some (b.2.1 1 k, none, sp_kc So T (b.2.1 1 k))) := by unfold sp_nd; rw [ol_if_t (show ¬ bk = 0 from c_14), ol_if_f hk0]
      refine ol_aload_n C dX11_ask_41 rfl rfl (by first | exact ol_isq_r _ | exact ol_isq_q _ | exact ol_isq_n) ?_
      refine ol_iload C dX11_ask_42 rfl ?_
      refine ol_ldc (v := (-1000009)) C wd_677 dX11_ask_44 ?_
      refine ol_iload C dX11_ask_46 rfl ?_
      refine ol_callV C (mm_refuse l D cA hL (nI (b.2.1 1 k)) (-1000009) (sp_kc So T (b.2.1 1 k))) hm.1 hm.2 rfl wd_733 wd_4 wd_730 wd_732 wq_17 mh_X11_refuse (by decide) rfl (by first | exact Nat.le_of_ble_eq_true rfl | simp [ol_rfc, Value.category]) dX11_ask_48 (ol_xi ?_)
      exact ol_iret C hret hlk rfl (by decide) (by decide) dX11_ask_51 ⟨rfl, rfl, _, fun j => T 1 (b.2.1 1 j), rfl, Or.inr ⟨b.2.1 1 k, none, sp_kc So T (b.2.1 1 k), _, _, _, by rw [eR], sp_kc_r hk0, rfl, by rw [eR]; exact hI2, rfl⟩, fun _ _ _ => rfl⟩
end
section
set_option maxRecDepth 100000 in
set_option maxHeartbeats 4000000 in
theorem lp_nof {p : Program} {l : Launch} {e : Env} {R : Room} {s : State} {m : MethodId} {args : Array Value} {below : List Frame} {meth : Method} {c : Code} {D : va_G} {cA : Nat → ClassId} {A : Nat → Prop} {Q : State → Prop} {ro : Nat → Nat} {F : Nat → Nat → Option Nat} {cells slots : Nat} (C : ol_Cx p s m args c cX11_load 6 yX11_load.cls D cA A) {ad : Nat → Nat} (hL : ol_L ro F ad) {g : Nat} (hg : g < 2) {I1 : Nat → Nat → Int32} {a1 bk : Int32} {x5 : Option Value} (ex : ∀ I : Nat → Nat → Int32, (∀ a, a ≠ ad 33 → I a = I1 a) → (∀ j, j < 40 → I (ad 33) (40 * g + j) = -1) → (∀ j, ¬ (40 * g ≤ j ∧ j < 40 * g + 40) → I (ad 33) j = I1 (ad 33) j) → ol_W p l e R s m args below meth c D cA A Q 6 ro I F cells slots 86 [some (.ref (ad 10)), some (.int a1), some (.int bk), some (.int (nI g)), some (.int (nI 40)), x5] []) : ∀ (d k : Nat) (I : Nat → Nat → Int32), k + d = 40 → (∀ a, a ≠ ad 33 → I a = I1 a) → (∀ j, j < k → I (ad 33) (40 * g + j) = -1) → (∀ j, ¬ (40 * g ≤ j ∧ j < 40 * g + 40) → I (ad 33) j = I1 (ad 33) j) → ol_W p l e R s m args below meth c D cA A Q 6 ro I F cells slots 60 [some (.ref (ad 10)), some (.int a1), some (.int bk), some (.int (nI g)), some (.int (nI k)), x5] [] := by
  have hm : ol_is ro (ad 10) (.inl 9) := hL.is 10 (by decide) (by decide) rfl
  have f_sorts : F (ad 10) 1 = some (ad 22) := hL.mf 1 22 (by decide)
  have i_sorts : ol_is ro (ad 22) (.inr (0, 40)) := hL.is 22 (by decide) (by decide) rfl
  have f_nodes : F (ad 10) 13 = some (ad 31) := hL.mf 13 31 (by decide)
  have i_nodes : ol_is ro (ad 31) (.inr (0, 2)) := hL.is 31 (by decide) (by decide) rfl
  have f_nodeOf : F (ad 10) 15 = some (ad 33) := hL.mf 15 33 (by decide)
  have i_nodeOf : ol_is ro (ad 33) (.inr (0, 80)) := hL.is 33 (by decide) (by decide) rfl
  have f_firstArc : F (ad 10) 17 = some (ad 35) := hL.mf 17 35 (by decide)
  have i_firstArc : ol_is ro (ad 35) (.inr (0, 82)) := hL.is 35 (by decide) (by decide) rfl
  have f_arcsIn : F (ad 10) 18 = some (ad 36) := hL.mf 18 36 (by decide)
  have i_arcsIn : ol_is ro (ad 36) (.inr (0, 2)) := hL.is 36 (by decide) (by decide) rfl
  have f_holeMany : F (ad 10) 22 = some (ad 40) := hL.mf 22 40 (by decide)
  have i_holeMany : ol_is ro (ad 40) (.inr (0, 2)) := hL.is 40 (by decide) (by decide) rfl
  intro d
  induction d with
  | zero =>
    intro k I hk h1 h2 h3
    have hk6 : k = 40 := by omega
    subst hk6
    refine ol_iload C dX11_load_60 rfl ?_
    refine ol_bipush (v := 40) C dX11_load_62 (by decide) ?_
    refine ol_icmp_ge (tgt := 86) C dX11_load_64 (by decide) (fun c_64 => ?_) (fun c_64 => absurd (show (40 : Int32) ≤ nI 40 by decide) c_64)
    exact ex I h1 h2 h3
  | succ d ih =>
    intro k I hk h1 h2 h3
    have hk6 : k < 40 := by omega
    refine ol_iload C dX11_load_60 rfl ?_
    refine ol_bipush (v := 40) C dX11_load_62 (by decide) ?_
    refine ol_icmp_ge (tgt := 86) C dX11_load_64 (by decide) (fun c_64 => absurd c_64 (nI_ge (b := 40) hk6 (by decide))) (fun c_64 => ?_)
    refine ol_aload_n C dX11_load_67 rfl rfl (by first | exact ol_isq_r _ | exact ol_isq_q _ | exact ol_isq_n) ?_
    refine ol_gR (k := 15) C (by assumption) rfl rfl wd_595 (.inl rfl) dX11_load_68 ?_
    refine ol_rf (by assumption) ?_
    refine ol_bipush (v := 40) C dX11_load_71 (by decide) ?_
    refine ol_iload_n C dX11_load_73 rfl rfl ?_
    refine ol_imul C dX11_load_74 ?_
    refine ol_iload C dX11_load_75 rfl ?_
    refine ol_iadd C dX11_load_77 ?_
    refine ol_iconst (v := (-1)) C dX11_load_78 (by decide) ?_
    refine ol_sI (40 * g + k) C (by assumption) (ol_ma rfl) (by omega) (by decide) dX11_load_79 ?_
    refine ol_iincN C dX11_load_80 rfl (by decide) ?_
    refine ol_goto (tgt := 60) C dX11_load_83 (by decide) ?_
    refine ih (k + 1) _ (by omega) (fun a ha => (ol_u2_a I _ ha).trans (h1 a ha)) (fun j hj => ?_) (fun j hj => ?_)
    · by_cases e : j = k
      · subst e
        exact ol_u2_s _ _ _ _
      · rw [ol_u2_k I _ (by omega)]
        exact h2 j (by omega)
    · rw [ol_u2_k I _ (by omega)]
      exact h3 j hj

set_option maxRecDepth 100000 in
set_option maxHeartbeats 4000000 in
theorem lp_load {p : Program} {l : Launch} {e : Env} {R : Room} {s : State} {m : MethodId} {args : Array Value} {below : List Frame} {meth : Method} {c : Code} {D : va_G} {cA : Nat → ClassId} {A : Nat → Prop} {Q : State → Prop} {ro : Nat → Nat} {F : Nat → Nat → Option Nat} {cells slots : Nat} (C : ol_Cx p s m args c cX11_load 6 yX11_load.cls D cA A) {ad : Nat → Nat} (hL : ol_L ro F ad) {g n : Nat} {So : Nat → Nat} {T : Nat → Nat → Int32} {P : Nat → Nat → Option Nat} (hV : ol_V n So T P) (hg : g < 2) {I0 : Nat → Nat → Int32} {a1 bk : Int32} {Rs : ol_B × ol_Fl} (hR1 : ol_rm R (ol_r 3 0 0) 7 cells slots) (ex : ∀ (I : Nat → Nat → Int32) (b : ol_B) (k : Nat), ol_LI ad g n So T P I0 I b k k → ol_BW n So b (6 * k) → k ≤ b.2.1 0 0 → b.2.1 2 k = b.2.1 0 1 → k = b.2.1 0 0 → Rs = (b, none) → ol_W p l e R s m args below meth c D cA A Q 6 ro I F cells slots 129 [some (.ref (ad 10)), some (.int a1), some (.int bk), some (.int (nI g)), some (.int (nI k)), none] []) (ex2 : ∀ (I2 : Nat → Nat → Int32) (b : ol_B) (u : Nat) (q : Option Nat) (z : Int32) (kc kf : Nat), Rs = (b, some (u, q, z)) → (z = 1 ∨ z = 2 ∨ z = 3 ∨ z = 4 ∨ z = 6) → ol_LI ad g n So T P I0 I2 b kc kf → ol_W p l e R s m args below meth c D cA A Q 6 ro (ol_rfu I2 ad (nI u) (ol_e q) z) F cells slots 120 [some (.ref (ad 10)), none, none, none, none, some (.int (-1000010 - z))] []) : ∀ (d k : Nat) (I : Nat → Nat → Int32) (b : ol_B), k + d = 41 → ol_LI ad g n So T P I0 I b k k → ol_BW n So b (6 * k) → k ≤ b.2.1 0 0 → b.2.1 2 k = b.2.1 0 1 → (¬ bk = 0 → ∀ j, j < k → I (ad 41) j = T 1 (b.2.1 1 j)) → sp_ld So T P (¬ bk = 0) d k b = Rs → ol_W p l e R s m args below meth c D cA A Q 6 ro I F cells slots 94 [some (.ref (ad 10)), some (.int a1), some (.int bk), some (.int (nI g)), some (.int (nI k)), none] [] := by
  have hm : ol_is ro (ad 10) (.inl 9) := hL.is 10 (by decide) (by decide) rfl
  have f_sorts : F (ad 10) 1 = some (ad 22) := hL.mf 1 22 (by decide)
  have i_sorts : ol_is ro (ad 22) (.inr (0, 40)) := hL.is 22 (by decide) (by decide) rfl
  have f_nodes : F (ad 10) 13 = some (ad 31) := hL.mf 13 31 (by decide)
  have i_nodes : ol_is ro (ad 31) (.inr (0, 2)) := hL.is 31 (by decide) (by decide) rfl
  have f_nodeOf : F (ad 10) 15 = some (ad 33) := hL.mf 15 33 (by decide)
  have i_nodeOf : ol_is ro (ad 33) (.inr (0, 80)) := hL.is 33 (by decide) (by decide) rfl
  have f_firstArc : F (ad 10) 17 = some (ad 35) := hL.mf 17 35 (by decide)
  have i_firstArc : ol_is ro (ad 35) (.inr (0, 82)) := hL.is 35 (by decide) (by decide) rfl
  have f_arcsIn : F (ad 10) 18 = some (ad 36) := hL.mf 18 36 (by decide)
  have i_arcsIn : ol_is ro (ad 36) (.inr (0, 2)) := hL.is 36 (by decide) (by decide) rfl
  have f_holeMany : F (ad 10) 22 = some (ad 40) := hL.mf 22 40 (by decide)
  have i_holeMany : ol_is ro (ad 40) (.inr (0, 2)) := hL.is 40 (by decide) (by decide) rfl
  have h40 := hV.1
  intro d
  induction d with
  | zero =>
    intro k I b hk hI hB hle hfa hky hR
    exact absurd hB.le (by omega)
  | succ d ih =>
    intro k I b hk hI hB hle hfa hky hR
    have hle2 := hB.le
    refine ol_iload C dX11_load_94 rfl ?_
    refine ol_aload_n C dX11_load_96 rfl rfl (by first | exact ol_isq_r _ | exact ol_isq_q _ | exact ol_isq_n) ?_
    refine ol_gR (k := 13) C (by assumption) rfl rfl wd_593 (.inl rfl) dX11_load_97 ?_
    refine ol_rf (by assumption) ?_
    refine ol_iload_n C dX11_load_100 rfl rfl ?_
    refine ol_lI g C (by assumption) rfl hg (by decide) dX11_load_101 ?_
    refine ol_ti (show I (ad 31) g = nI (b.2.1 0 0) from hI.2.1.1) ?_
    refine ol_icmp_ge (tgt := 129) C dX11_load_102 (by decide) (fun c_102 => ?_) (fun c_102 => ?_)
    · have hge : b.2.1 0 0 ≤ k := (nI_leI (by omega) (by omega)).mp c_102
      exact ex I b k hI hB hle hfa (by omega) (by rw [← hR, sp_ld, ol_if_f (by omega)])
    · have hlt : k < b.2.1 0 0 := Nat.lt_of_not_le (fun q => c_102 ((nI_leI (by omega) (by omega)).mpr q))
      refine ol_aload_n C dX11_load_105 rfl rfl (by first | exact ol_isq_r _ | exact ol_isq_q _ | exact ol_isq_n) ?_
      refine ol_iload_n C dX11_load_106 rfl rfl ?_
      refine ol_iload C dX11_load_107 rfl ?_
      refine ol_iload_n C dX11_load_109 rfl rfl ?_
      refine ol_callV C (mm_ask l D cA hL hV hg hI hB hlt hfa bk hky) hm.1 hm.2 rfl wd_725 wd_4 wd_722 wd_724 wq_15 mh_X11_ask hR1 rfl (by first | exact Nat.le_of_ble_eq_true rfl | simp [ol_rfc, Value.category]) dX11_load_110 (fun v_110 ro_110 I_110 F_110 hh_110 => ?_)
      obtain ⟨rfl, rfl, w, K, rfl, hao, hK⟩ := hh_110
      obtain ⟨m1, m2, m3, m4, m5, m6⟩ := sp_nd_keep hV (byK := ¬ bk = 0) (M := 6 * k) hlt hB
      rcases hao with ⟨h1, rfl, h2, h3⟩ | ⟨u, q, z, I2, kc, kf, h1, hz, rfl, h2, rfl⟩
      · refine ol_st (st' := [.int _]) rfl ?_
        refine ol_istore C dX11_load_113 (by decide) ?_
        refine ol_iload C dX11_load_115 rfl ?_
        refine ol_if_ge (tgt := 123) C dX11_load_117 (by decide) (fun c_117 => ?_) (fun c_117 => absurd (show (0 : Int32) ≤ 0 by decide) c_117)
        refine ol_iincN C dX11_load_123 rfl (by decide) ?_
        refine ol_goto (tgt := 94) C dX11_load_126 (by decide) ?_
        refine ol_lv (lv' := [some (.ref (ad 10)), some (.int a1), some (.int bk), some (.int (nI g)), some (.int (nI (k + 1))), none]) (by intro i v h; rcases i with _|_|_|_|_|_|i <;> first | exact h | (simp at h)) ?_
        refine ih (k + 1) _ (sp_nd So T P (¬ bk = 0) k b).1 (by omega) h2 (m3.mono (by omega)) (by omega) (m6 h1) (fun hb j hj => ?_) ?_
        · rw [h3, hK hb j hj, m2 j (by omega)]
        · rw [← hR, sp_ld, ol_if_t hlt]
          revert h1
          cases sp_nd So T P (¬ bk = 0) k b with
          | mk b5 f5 =>
            intro h1
            dsimp only at h1
            subst h1
            rfl
      · refine ol_st (st' := [.int _]) rfl ?_
        refine ol_istore C dX11_load_113 (by decide) ?_
        refine ol_iload C dX11_load_115 rfl ?_
        refine ol_if_ge (tgt := 123) C dX11_load_117 (by decide) (fun c_117 => by exfalso; revert c_117; rcases hz with rfl | rfl | rfl | rfl | rfl <;> decide) (fun c_117 => ?_)
        refine ol_lv (lv' := [some (.ref (ad 10)), none, none, none, none, some (.int (-1000010 - z))]) (by intro i v h; rcases i with _|_|_|_|_|_|i <;> first | exact h | (simp at h)) ?_
        refine ex2 I2 (sp_nd So T P (¬ bk = 0) k b).1 u q z kc kf ?_ hz h2
        rw [← hR, sp_ld, ol_if_t hlt]
        revert h1
        cases sp_nd So T P (¬ bk = 0) k b with
        | mk b5 f5 =>
          intro h1
          dsimp only at h1
          subst h1
          rfl
end
section
/-- nothing is loaded yet -/
def sp_b0 (T : Nat → Nat → Int32) : ol_B := (T 4, fun _ _ => 0, fun _ _ => 0, fun _ => none)
theorem ol_cn_none : ∀ n, ol_cn (fun _ => none) n = 0
  | 0 => rfl
  | n + 1 => by
    unfold ol_cn
    rw [ol_cn_none n]
    rfl
theorem sp_b0_BW (n : Nat) (So : Nat → Nat) (T : Nat → Nat → Int32) : ol_BW n So (sp_b0 T) 0 :=
  ⟨(ol_cn_none n).symm, fun k hk => absurd hk (Nat.not_lt_zero k), fun t k h => (by cases h), Nat.le_refl _, fun a ha => absurd ha (Nat.not_lt_zero a)⟩
theorem va_up_id {α : Type} (T : Nat → α) (k : Nat) : va_up T k (T k) = T := by
  funext j
  by_cases e : j = k
  · subst e
    exact va_up_self _ _ _
  · exact va_up_ne _ _ e
theorem ol_LI_init {ro : Nat → Nat} {F : Nat → Nat → Option Nat} {ad : Nat → Nat} (hL : ol_L ro F ad) {g n : Nat} {So : Nat → Nat} {T : Nat → Nat → Int32} {P : Nat → Nat → Option Nat} {I I3 : Nat → Nat → Int32} (hT : ol_MT I ad n So T P) (h1 : ∀ a, a ≠ ad 33 → I3 a = ol_u2 (ol_u2 (ol_u2 (ol_u2 I (ad 10) 26 0) (ad 31) g 0) (ad 36) g 0) (ad 40) g 0 a) (h2 : ∀ j, j < 40 → I3 (ad 33) (40 * g + j) = -1) (h3 : ∀ j, ¬ (40 * g ≤ j ∧ j < 40 * g + 40) → I3 (ad 33) j = ol_u2 (ol_u2 (ol_u2 (ol_u2 I (ad 10) 26 0) (ad 31) g 0) (ad 36) g 0) (ad 40) g 0 (ad 33) j) : ol_LI ad g n So T P (ol_u2 I (ad 10) 26 0) I3 (sp_b0 T) 0 0 := by
  have N : ∀ {r q : Nat}, r ∈ ol_uq → q ∈ ol_uq → r ≠ q → ad r ≠ ad q := fun a b c => hL.ne a b c
  have hfm : ol_fm ad g (ol_u2 I (ad 10) 26 0) I3 := by
    intro a k hk
    by_cases e : a = ad 33
    · subst e
      rw [h3 k (fun q => hk (Or.inr (Or.inr (Or.inr (Or.inr (Or.inr (Or.inr (Or.inl ⟨rfl, q.1, q.2⟩))))))))]
      rw [ol_u2_a _ _ (N (by decide) (by decide) (by decide)), ol_u2_a _ _ (N (by decide) (by decide) (by decide)), ol_u2_a _ _ (N (by decide) (by decide) (by decide))]
    · rw [h1 a e]
      exact (((ol_fm_rf ad g (ol_u2 I (ad 10) 26 0)).up 0 (ol_tg_nodes ad g)).up 0 (ol_tg_arcs ad g)).up 0 (ol_tg_holes ad g) a k hk
  refine ⟨?_, ?_, hfm⟩
  · show ol_MT I3 ad n So (va_up T 4 (T 4)) P
    rw [va_up_id]
    have hr : ∀ r, r ∈ [22, 23, 24, 25, 26, 27, 28] → I3 (ad r) = I (ad r) := by
      intro r hr
      have h4 : r ∈ ol_uq ∧ r ≠ 33 ∧ r ≠ 40 ∧ r ≠ 36 ∧ r ≠ 31 ∧ r ≠ 10 := by
        revert r
        decide
      rw [h1 _ (N h4.1 (by decide) h4.2.1), ol_u2_a _ _ (N h4.1 (by decide) h4.2.2.1), ol_u2_a _ _ (N h4.1 (by decide) h4.2.2.2.1), ol_u2_a _ _ (N h4.1 (by decide) h4.2.2.2.2.1), ol_u2_a _ _ (N h4.1 (by decide) h4.2.2.2.2.2)]
    have h0 : I3 (ad 10) 0 = I (ad 10) 0 := by
      rw [h1 _ (N (by decide) (by decide) (by decide)), ol_u2_a _ _ (N (by decide) (by decide) (by decide)), ol_u2_a _ _ (N (by decide) (by decide) (by decide)), ol_u2_a _ _ (N (by decide) (by decide) (by decide)), ol_u2_k _ _ (by decide)]
    unfold ol_MT
    rw [h0, hr 22 (by decide), hr 23 (by decide), hr 24 (by decide), hr 25 (by decide), hr 26 (by decide), hr 27 (by decide), hr 28 (by decide)]
    exact hT
  · refine ⟨?_, ?_, ?_, fun k hk => absurd hk (Nat.not_lt_zero k), h2, fun k hk => absurd hk (Nat.not_lt_zero k), fun k hk => absurd hk (Nat.not_lt_zero k), fun a ha => absurd ha (Nat.not_lt_zero a)⟩
    · show I3 (ad 31) g = nI 0
      rw [h1 _ (N (by decide) (by decide) (by decide)), ol_u2_a _ _ (N (by decide) (by decide) (by decide)), ol_u2_a _ _ (N (by decide) (by decide) (by decide)), ol_u2_s]
      rfl
    · show I3 (ad 36) g = nI 0
      rw [h1 _ (N (by decide) (by decide) (by decide)), ol_u2_a _ _ (N (by decide) (by decide) (by decide)), ol_u2_s]
      rfl
    · show I3 (ad 40) g = nI 0
      rw [h1 _ (N (by decide) (by decide) (by decide)), ol_u2_s]
      rfl
/-- what loading from thing j gives -/
noncomputable def sp_R (So : Nat → Nat) (T : Nat → Nat → Int32) (P : Nat → Nat → Option Nat) (byK : Prop) (j : Nat) : ol_B × ol_Fl := sp_ld So T P byK 41 0 (sp_find (sp_b0 T) j)
end
section
set_option maxRecDepth 100000 in
set_option maxHeartbeats 4000000 in
theorem mm_load (l : Launch) (D : va_G) (cA : Nat → ClassId) {ro : Nat → Nat} {I : Nat → Nat → Int32} {F : Nat → Nat → Option Nat} {ad : Nat → Nat} (hL : ol_L ro F ad) {n : Nat} {So : Nat → Nat} {T : Nat → Nat → Int32} {P : Nat → Nat → Option Nat} (hT : ol_MT I ad n So T P) (hV : ol_V n So T P) {w : Nat} (hw : I (ad 10) 12 = nI w) (hw2 : w < 2) (t bk : Int32) : ol_M l D cA yX11_load cX11_load 6 (some FieldType.int) (ol_r 5 0 0) [.ref (ad 10), .int t, .int bk] ro I F (fun v ro' I' F' => ro' = ro ∧ F' = F ∧ ((¬ ol_k n t ∧ v = some (.int (-1000001)) ∧ I' = I) ∨ (∃ j, t = nI j ∧ j < n ∧ So j = 2 ∧ v = some (.int (-1000003)) ∧ I' = I) ∨ ∃ j, t = nI j ∧ j < n ∧ ¬ So j = 2 ∧ (((sp_R So T P (¬ bk = 0) j).2 = none ∧ v = some (.int (nI ((sp_R So T P (¬ bk = 0) j).1.2.1 0 0))) ∧ ∃ I2, ol_LI ad (1 - w) n So T P (ol_u2 I (ad 10) 26 0) I2 (sp_R So T P (¬ bk = 0) j).1 ((sp_R So T P (¬ bk = 0) j).1.2.1 0 0) ((sp_R So T P (¬ bk = 0) j).1.2.1 0 0 + 1) ∧ I' = ol_u2 I2 (ad 10) 12 (nI (1 - w))) ∨ ∃ (u : Nat) (q : Option Nat) (z : Int32) (I2 : Nat → Nat → Int32) (kc kf : Nat), (sp_R So T P (¬ bk = 0) j).2 = some (u, q, z) ∧ (z = 1 ∨ z = 2 ∨ z = 3 ∨ z = 4 ∨ z = 6) ∧ v = some (.int (-1000010 - z)) ∧ ol_LI ad (1 - w) n So T P (ol_u2 I (ad 10) 26 0) I2 (sp_R So T P (¬ bk = 0) j).1 kc kf ∧ I' = ol_rfu I2 ad (nI u) (ol_e q) z))) := by
  refine ol_M.of (by decide +kernel) (Nat.le_of_ble_eq_true rfl) (by simp [Value.category, ol_rfc]) ?_
  intro p e s m args below meth c C hret hlk hin
  have hm : ol_is ro (ad 10) (.inl 9) := hL.is 10 (by decide) (by decide) rfl
  have f_sorts : F (ad 10) 1 = some (ad 22) := hL.mf 1 22 (by decide)
  have i_sorts : ol_is ro (ad 22) (.inr (0, 40)) := hL.is 22 (by decide) (by decide) rfl
  have f_nodes : F (ad 10) 13 = some (ad 31) := hL.mf 13 31 (by decide)
  have i_nodes : ol_is ro (ad 31) (.inr (0, 2)) := hL.is 31 (by decide) (by decide) rfl
  have f_nodeOf : F (ad 10) 15 = some (ad 33) := hL.mf 15 33 (by decide)
  have i_nodeOf : ol_is ro (ad 33) (.inr (0, 80)) := hL.is 33 (by decide) (by decide) rfl
  have f_firstArc : F (ad 10) 17 = some (ad 35) := hL.mf 17 35 (by decide)
  have i_firstArc : ol_is ro (ad 35) (.inr (0, 82)) := hL.is 35 (by decide) (by decide) rfl
  have f_arcsIn : F (ad 10) 18 = some (ad 36) := hL.mf 18 36 (by decide)
  have i_arcsIn : ol_is ro (ad 36) (.inr (0, 2)) := hL.is 36 (by decide) (by decide) rfl
  have f_holeMany : F (ad 10) 22 = some (ad 40) := hL.mf 22 40 (by decide)
  have i_holeMany : ol_is ro (ad 40) (.inr (0, 2)) := hL.is 40 (by decide) (by decide) rfl
  have h40 := hV.1
  have hn := hT.1
  have hg : 1 - w < 2 := by omega
  have n31_10 : ad 31 ≠ ad 10 := hL.ne (by decide) (by decide) (by decide)
  refine ol_aload_n C dX11_load_0 rfl rfl (by first | exact ol_isq_r _ | exact ol_isq_q _ | exact ol_isq_n) ?_
  refine ol_iload_n C dX11_load_1 rfl rfl ?_
  refine ol_callV C (mm_isThing l D cA hL hn h40 t) hm.1 hm.2 rfl wd_685 wd_4 wd_682 wd_684 wq_12 mh_X11_isThing (by decide) rfl (by first | exact Nat.le_of_ble_eq_true rfl | simp [ol_rfc, Value.category]) dX11_load_2 (ol_xi ?_)
  refine ol_if_ne (tgt := 11) C dX11_load_5 (by decide) (fun c_5 => ?_) (fun c_5 => ?_)
  · have hK := ol_p_n.mp c_5
    obtain ⟨j, hj, rfl, hj31⟩ := ol_k_ix hK h40
    have hj40 : j < 40 := by omega
    obtain ⟨e22, -⟩ := hT.2 j hj
    refine ol_aload_n C dX11_load_11 rfl rfl (by first | exact ol_isq_r _ | exact ol_isq_q _ | exact ol_isq_n) ?_
    refine ol_gR (k := 1) C (by assumption) rfl rfl wd_581 (.inl rfl) dX11_load_12 ?_
    refine ol_rf (by assumption) ?_
    refine ol_iload_n C dX11_load_15 rfl rfl ?_
    refine ol_lI j C (by assumption) rfl hj40 (by decide) dX11_load_16 ?_
    refine ol_ti e22 ?_
    refine ol_iconst (v := 2) C dX11_load_17 (by decide) ?_
    refine ol_icmp_ne (tgt := 24) C dX11_load_18 (by decide) (fun c_18 => ?_) (fun c_18 => ?_)
    · have s2 : ¬ So j = 2 := fun q => c_18 (by rw [q]; rfl)
      refine ol_iconst (v := 1) C dX11_load_24 (by decide) ?_
      refine ol_aload_n C dX11_load_25 rfl rfl (by first | exact ol_isq_r _ | exact ol_isq_q _ | exact ol_isq_n) ?_
      refine ol_gI (k := 12) C (by assumption) rfl rfl wd_592 (.inl rfl) dX11_load_26 ?_
      refine ol_isub C dX11_load_29 ?_
      refine ol_ti (y := nI (1 - w)) (by rw [hw]; exact pk_sub (a := 1) (by omega)) ?_
      refine ol_istore_n C dX11_load_30 rfl (by decide) ?_
      refine ol_aload_n C dX11_load_31 rfl rfl (by first | exact ol_isq_r _ | exact ol_isq_q _ | exact ol_isq_n) ?_
      refine ol_iconst (v := 0) C dX11_load_32 (by decide) ?_
      refine ol_pI (k := 26) C (by assumption) rfl rfl wd_606 (.inl rfl) rfl rfl dX11_load_33 ?_
      refine ol_aload_n C dX11_load_36 rfl rfl (by first | exact ol_isq_r _ | exact ol_isq_q _ | exact ol_isq_n) ?_
      refine ol_gR (k := 13) C (by assumption) rfl rfl wd_593 (.inl rfl) dX11_load_37 ?_
      refine ol_rf (by assumption) ?_
      refine ol_iload_n C dX11_load_40 rfl rfl ?_
      refine ol_iconst (v := 0) C dX11_load_41 (by decide) ?_
      refine ol_sI (1 - w) C (by assumption) rfl hg (by decide) dX11_load_42 ?_
      refine ol_aload_n C dX11_load_43 rfl rfl (by first | exact ol_isq_r _ | exact ol_isq_q _ | exact ol_isq_n) ?_
      refine ol_gR (k := 18) C (by assumption) rfl rfl wd_598 (.inl rfl) dX11_load_44 ?_
      refine ol_rf (by assumption) ?_
      refine ol_iload_n C dX11_load_47 rfl rfl ?_
      refine ol_iconst (v := 0) C dX11_load_48 (by decide) ?_
      refine ol_sI (1 - w) C (by assumption) rfl hg (by decide) dX11_load_49 ?_
      refine ol_aload_n C dX11_load_50 rfl rfl (by first | exact ol_isq_r _ | exact ol_isq_q _ | exact ol_isq_n) ?_
      refine ol_gR (k := 22) C (by assumption) rfl rfl wd_602 (.inl rfl) dX11_load_51 ?_
      refine ol_rf (by assumption) ?_
      refine ol_iload_n C dX11_load_54 rfl rfl ?_
      refine ol_iconst (v := 0) C dX11_load_55 (by decide) ?_
      refine ol_sI (1 - w) C (by assumption) rfl hg (by decide) dX11_load_56 ?_
      refine ol_iconst (v := 0) C dX11_load_57 (by decide) ?_
      refine ol_istore C dX11_load_58 (by decide) ?_
      refine lp_nof C hL hg (fun I3 h1 h2 h3 => ?_) 40 0 _ (by omega) (fun _ _ => rfl) (fun j hj => absurd hj (by omega)) (fun _ _ => rfl)
      have hI3 := ol_LI_init hL hT h1 h2 h3
      refine ol_aload_n C dX11_load_86 rfl rfl (by first | exact ol_isq_r _ | exact ol_isq_q _ | exact ol_isq_n) ?_
      refine ol_iload_n C dX11_load_87 rfl rfl ?_
      refine ol_iload_n C dX11_load_88 rfl rfl ?_
      refine ol_callV C (mm_fnd l D cA hL hg h40 hI3 (sp_b0_BW n So T) hj) hm.1 hm.2 rfl wd_721 wd_4 wd_718 wd_720 wq_14 mh_X11_found (by decide) rfl (by first | exact Nat.le_of_ble_eq_true rfl | simp [ol_rfc, Value.category]) dX11_load_89 (fun v_89 ro_89 I_89 F_89 hh_89 => ?_)
      obtain ⟨rfl, rfl, rfl, hI4, -, -, -⟩ := hh_89
      refine ol_st (st' := .int _ :: _) rfl ?_
      refine ol_istore C dX11_load_92 (by decide) ?_
      refine ol_lv (lv' := [some (.ref (ad 10)), some (.int (nI j)), some (.int bk), some (.int (nI (1 - w))), some (.int (nI 0)), none]) (by intro i v h; rcases i with _|_|_|_|_|_|i <;> first | exact h | (simp at h)) ?_
      have hBf := (sp_b0_BW n So T).find hj s2
      have ef : (sp_find (sp_b0 T) j).2.1 2 0 = (sp_find (sp_b0 T) j).2.1 0 1 := rfl
      refine lp_load C hL hV hg (Rs := sp_R So T P (¬ bk = 0) j) (by decide) (fun I5 b5 k hI5 hB5 hle5 hfa5 hkn eR => ?_) (fun I5 b5 u q z kc kf eR hz hI5 => ?_) 41 0 _ (sp_find (sp_b0 T) j) rfl (hI4) hBf.1 (Nat.zero_le _) ef (fun _ j hj => absurd hj (Nat.not_lt_zero j)) rfl
      · have hk40 : k ≤ n := by have := hB5.le; omega
        refine ol_aload_n C dX11_load_129 rfl rfl (by first | exact ol_isq_r _ | exact ol_isq_q _ | exact ol_isq_n) ?_
        refine ol_gR (k := 17) C (by assumption) rfl rfl wd_597 (.inl rfl) dX11_load_130 ?_
        refine ol_rf (by assumption) ?_
        refine ol_bipush (v := 41) C dX11_load_133 (by decide) ?_
        refine ol_iload_n C dX11_load_135 rfl rfl ?_
        refine ol_imul C dX11_load_136 ?_
        refine ol_aload_n C dX11_load_137 rfl rfl (by first | exact ol_isq_r _ | exact ol_isq_q _ | exact ol_isq_n) ?_
        refine ol_gR (k := 13) C (by assumption) rfl rfl wd_593 (.inl rfl) dX11_load_138 ?_
        refine ol_rf (by assumption) ?_
        refine ol_iload_n C dX11_load_141 rfl rfl ?_
        refine ol_lI (1 - w) C (by assumption) rfl hg (by decide) dX11_load_142 ?_
        refine ol_ti (show I5 (ad 31) (1 - w) = nI k from hkn ▸ hI5.2.1.1) ?_
        refine ol_iadd C dX11_load_143 ?_
        refine ol_aload_n C dX11_load_144 rfl rfl (by first | exact ol_isq_r _ | exact ol_isq_q _ | exact ol_isq_n) ?_
        refine ol_gR (k := 18) C (by assumption) rfl rfl wd_598 (.inl rfl) dX11_load_145 ?_
        refine ol_rf (by assumption) ?_
        refine ol_iload_n C dX11_load_148 rfl rfl ?_
        refine ol_lI (1 - w) C (by assumption) rfl hg (by decide) dX11_load_149 ?_
        refine ol_ti (show I5 (ad 36) (1 - w) = nI (b5.2.1 0 1) from hI5.2.1.2.1) ?_
        refine ol_sI (41 * (1 - w) + k) C (by assumption) (ol_ma rfl) (by omega) (by decide) dX11_load_150 ?_
        have hI6 := hI5.fa hL (by omega) hfa5
        refine ol_aload_n C dX11_load_151 rfl rfl (by first | exact ol_isq_r _ | exact ol_isq_q _ | exact ol_isq_n) ?_
        refine ol_iload_n C dX11_load_152 rfl rfl ?_
        refine ol_pI (k := 12) C (by assumption) rfl rfl wd_592 (.inl rfl) rfl rfl dX11_load_153 ?_
        refine ol_aload_n C dX11_load_156 rfl rfl (by first | exact ol_isq_r _ | exact ol_isq_q _ | exact ol_isq_n) ?_
        refine ol_gR (k := 13) C (by assumption) rfl rfl wd_593 (.inl rfl) dX11_load_157 ?_
        refine ol_rf (by assumption) ?_
        refine ol_iload_n C dX11_load_160 rfl rfl ?_
        refine ol_lI (1 - w) C (by assumption) rfl hg (by decide) dX11_load_161 ?_
        rw [ol_u2_a _ _ n31_10]
        refine ol_ti (show ol_u2 I5 (ad 35) (41 * (1 - w) + k) (nI (b5.2.1 0 1)) (ad 31) (1 - w) = nI (b5.2.1 0 0) from hI6.2.1.1) ?_
        exact ol_iret C hret hlk rfl (by decide) (by decide) dX11_load_162 ⟨rfl, rfl, Or.inr (Or.inr ⟨j, rfl, hj, s2, Or.inl ⟨by rw [eR], by rw [eR], _, by rw [eR, ← hkn]; exact hI6, rfl⟩⟩)⟩
      · refine ol_iload C dX11_load_120 rfl ?_
        exact ol_iret C hret hlk rfl (by decide) (by decide) dX11_load_122 ⟨rfl, rfl, Or.inr (Or.inr ⟨j, rfl, hj, s2, Or.inr ⟨u, q, z, I5, kc, kf, by rw [eR], hz, rfl, by rw [eR]; exact hI5, rfl⟩⟩)⟩
    · have s2 : So j = 2 := (ol_nIk (k := 2) (hV.2 j hj).1 (by decide)).mp c_18
      refine ol_ldc (v := (-1000003)) C wd_717 dX11_load_21 ?_
      exact ol_iret C hret hlk rfl (by decide) (by decide) dX11_load_23 ⟨rfl, rfl, Or.inr (Or.inl ⟨j, rfl, hj, s2, rfl, rfl⟩)⟩
  · have hK := ol_p_0.mp c_5
    refine ol_ldc (v := (-1000001)) C wd_686 dX11_load_8 ?_
    exact ol_iret C hret hlk rfl (by decide) (by decide) dX11_load_10 ⟨rfl, rfl, Or.inl ⟨hK, rfl, rfl⟩⟩
end
section
section OLIN
variable {p : Program} {l : Launch} {e : Env} {R : Room} {s : State} {m : MethodId} {args : Array Value} {below : List Frame} {meth : Method} {c : Code} {D : va_G} {cA : Nat → ClassId} {A : Nat → Prop} {Q : State → Prop} {nL : Nat} {ro : Nat → Nat} {I : Nat → Nat → Int32} {F : Nat → Nat → Option Nat} {cells slots pc : Nat} {lv : List (Option Value)} {rest : List Value} {cc : ByteArray} {own : String}
theorem ol_in_Bridge {a index : Nat} (C : ol_Cx p s m args c cc nL own D cA A) (ht : ol_th ro a) (hcl : Cond.classLink own index "ObjectLoads$Bridge" ∈ ol_all) (hdg : decode cc pc = .ok (.instanceof index, 3)) (kk : ol_W p l e R s m args below meth c D cA A Q nL ro I F cells slots (pc + 3) lv (.int (ol_p (ro a = 4)) :: rest)) : ol_W p l e R s m args below meth c D cA A Q nL ro I F cells slots pc lv (.ref a :: rest) := by
  have h0 : ro a ≠ 0 := by have := ht.1; omega
  have h3 : ro a = 2 ∨ ro a = 3 ∨ ro a = 4 ∨ ro a = 5 ∨ ro a = 6 ∨ ro a = 7 ∨ ro a = 8 := by have := ht.1; have := ht.2; omega
  rcases h3 with h | h | h | h | h | h | h
  · rw [show ol_p (ro a = 4) = 0 from ol_p_f (by omega)] at kk
    exact ol_instNo (ci := 1) C h0 (by rw [h]; rfl) rfl hcl (by decide) hdg kk
  · rw [show ol_p (ro a = 4) = 0 from ol_p_f (by omega)] at kk
    exact ol_instNo (ci := 2) C h0 (by rw [h]; rfl) rfl hcl (by decide) hdg kk
  · rw [show ol_p (ro a = 4) = 1 from ol_p_t (by omega)] at kk
    exact ol_instY (ci := 3) C h0 (by rw [h]; rfl) rfl hcl (by decide) hdg kk
  · rw [show ol_p (ro a = 4) = 0 from ol_p_f (by omega)] at kk
    exact ol_instNo (ci := 4) C h0 (by rw [h]; rfl) rfl hcl (by decide) hdg kk
  · rw [show ol_p (ro a = 4) = 0 from ol_p_f (by omega)] at kk
    exact ol_instNo (ci := 5) C h0 (by rw [h]; rfl) rfl hcl (by decide) hdg kk
  · rw [show ol_p (ro a = 4) = 0 from ol_p_f (by omega)] at kk
    exact ol_instNo (ci := 6) C h0 (by rw [h]; rfl) rfl hcl (by decide) hdg kk
  · rw [show ol_p (ro a = 4) = 0 from ol_p_f (by omega)] at kk
    exact ol_instNo (ci := 7) C h0 (by rw [h]; rfl) rfl hcl (by decide) hdg kk
theorem ol_inq_Bridge {q : Option Nat} {index : Nat} (C : ol_Cx p s m args c cc nL own D cA A) (ht : ∀ a, q = some a → ol_th ro a) (hcl : Cond.classLink own index "ObjectLoads$Bridge" ∈ ol_all) (hdg : decode cc pc = .ok (.instanceof index, 3)) (kk : ol_W p l e R s m args below meth c D cA A Q nL ro I F cells slots (pc + 3) lv (.int (ol_p (∃ a, q = some a ∧ ro a = 4)) :: rest)) : ol_W p l e R s m args below meth c D cA A Q nL ro I F cells slots pc lv (va_rf q :: rest) := by
  cases q with
  | none =>
    rw [show ol_p (∃ a, (none : Option Nat) = some a ∧ ro a = 4) = 0 from ol_p_f (by rintro ⟨a, h, -⟩; cases h)] at kk
    exact ol_instN C hdg kk
  | some a =>
    rw [show ol_p (∃ b, some a = some b ∧ ro b = 4) = ol_p (ro a = 4) from ol_p_c ⟨by rintro ⟨b, h, h2⟩; cases h; exact h2, fun h => ⟨a, rfl, h⟩⟩] at kk
    exact ol_in_Bridge C (ht a rfl) hcl hdg kk
theorem ol_in_Node {a index : Nat} (C : ol_Cx p s m args c cc nL own D cA A) (ht : ol_th ro a) (hcl : Cond.classLink own index "ObjectLoads$Node" ∈ ol_all) (hdg : decode cc pc = .ok (.instanceof index, 3)) (kk : ol_W p l e R s m args below meth c D cA A Q nL ro I F cells slots (pc + 3) lv (.int (ol_p (¬ ro a = 4)) :: rest)) : ol_W p l e R s m args below meth c D cA A Q nL ro I F cells slots pc lv (.ref a :: rest) := by
  have h0 : ro a ≠ 0 := by have := ht.1; omega
  have h3 : ro a = 2 ∨ ro a = 3 ∨ ro a = 4 ∨ ro a = 5 ∨ ro a = 6 ∨ ro a = 7 ∨ ro a = 8 := by have := ht.1; have := ht.2; omega
  rcases h3 with h | h | h | h | h | h | h
  · rw [show ol_p (¬ ro a = 4) = 1 from ol_p_t (by omega)] at kk
    exact ol_instY (ci := 1) C h0 (by rw [h]; rfl) rfl hcl (by decide) hdg kk
  · rw [show ol_p (¬ ro a = 4) = 1 from ol_p_t (by omega)] at kk
    exact ol_instY (ci := 2) C h0 (by rw [h]; rfl) rfl hcl (by decide) hdg kk
  · rw [show ol_p (¬ ro a = 4) = 0 from ol_p_f (by omega)] at kk
    exact ol_instNo (ci := 3) C h0 (by rw [h]; rfl) rfl hcl (by decide) hdg kk
  · rw [show ol_p (¬ ro a = 4) = 1 from ol_p_t (by omega)] at kk
    exact ol_instY (ci := 4) C h0 (by rw [h]; rfl) rfl hcl (by decide) hdg kk
  · rw [show ol_p (¬ ro a = 4) = 1 from ol_p_t (by omega)] at kk
    exact ol_instY (ci := 5) C h0 (by rw [h]; rfl) rfl hcl (by decide) hdg kk
  · rw [show ol_p (¬ ro a = 4) = 1 from ol_p_t (by omega)] at kk
    exact ol_instY (ci := 6) C h0 (by rw [h]; rfl) rfl hcl (by decide) hdg kk
  · rw [show ol_p (¬ ro a = 4) = 1 from ol_p_t (by omega)] at kk
    exact ol_instY (ci := 7) C h0 (by rw [h]; rfl) rfl hcl (by decide) hdg kk
theorem ol_inq_Node {q : Option Nat} {index : Nat} (C : ol_Cx p s m args c cc nL own D cA A) (ht : ∀ a, q = some a → ol_th ro a) (hcl : Cond.classLink own index "ObjectLoads$Node" ∈ ol_all) (hdg : decode cc pc = .ok (.instanceof index, 3)) (kk : ol_W p l e R s m args below meth c D cA A Q nL ro I F cells slots (pc + 3) lv (.int (ol_p (∃ a, q = some a ∧ ¬ ro a = 4)) :: rest)) : ol_W p l e R s m args below meth c D cA A Q nL ro I F cells slots pc lv (va_rf q :: rest) := by
  cases q with
  | none =>
    rw [show ol_p (∃ a, (none : Option Nat) = some a ∧ ¬ ro a = 4) = 0 from ol_p_f (by rintro ⟨a, h, -⟩; cases h)] at kk
    exact ol_instN C hdg kk
  | some a =>
    rw [show ol_p (∃ b, some a = some b ∧ ¬ ro b = 4) = ol_p (¬ ro a = 4) from ol_p_c ⟨by rintro ⟨b, h, h2⟩; cases h; exact h2, fun h => ⟨a, rfl, h⟩⟩] at kk
    exact ol_in_Node C (ht a rfl) hcl hdg kk
theorem ol_in_City {a index : Nat} (C : ol_Cx p s m args c cc nL own D cA A) (ht : ol_th ro a) (hcl : Cond.classLink own index "ObjectLoads$City" ∈ ol_all) (hdg : decode cc pc = .ok (.instanceof index, 3)) (kk : ol_W p l e R s m args below meth c D cA A Q nL ro I F cells slots (pc + 3) lv (.int (ol_p ((ro a = 3 ∨ ro a = 6 ∨ ro a = 7))) :: rest)) : ol_W p l e R s m args below meth c D cA A Q nL ro I F cells slots pc lv (.ref a :: rest) := by
  have h0 : ro a ≠ 0 := by have := ht.1; omega
  have h3 : ro a = 2 ∨ ro a = 3 ∨ ro a = 4 ∨ ro a = 5 ∨ ro a = 6 ∨ ro a = 7 ∨ ro a = 8 := by have := ht.1; have := ht.2; omega
  rcases h3 with h | h | h | h | h | h | h
  · rw [show ol_p ((ro a = 3 ∨ ro a = 6 ∨ ro a = 7)) = 0 from ol_p_f (by omega)] at kk
    exact ol_instNo (ci := 1) C h0 (by rw [h]; rfl) rfl hcl (by decide) hdg kk
  · rw [show ol_p ((ro a = 3 ∨ ro a = 6 ∨ ro a = 7)) = 1 from ol_p_t (by omega)] at kk
    exact ol_instY (ci := 2) C h0 (by rw [h]; rfl) rfl hcl (by decide) hdg kk
  · rw [show ol_p ((ro a = 3 ∨ ro a = 6 ∨ ro a = 7)) = 0 from ol_p_f (by omega)] at kk
    exact ol_instNo (ci := 3) C h0 (by rw [h]; rfl) rfl hcl (by decide) hdg kk
  · rw [show ol_p ((ro a = 3 ∨ ro a = 6 ∨ ro a = 7)) = 0 from ol_p_f (by omega)] at kk
    exact ol_instNo (ci := 4) C h0 (by rw [h]; rfl) rfl hcl (by decide) hdg kk
  · rw [show ol_p ((ro a = 3 ∨ ro a = 6 ∨ ro a = 7)) = 1 from ol_p_t (by omega)] at kk
    exact ol_instY (ci := 5) C h0 (by rw [h]; rfl) rfl hcl (by decide) hdg kk
  · rw [show ol_p ((ro a = 3 ∨ ro a = 6 ∨ ro a = 7)) = 1 from ol_p_t (by omega)] at kk
    exact ol_instY (ci := 6) C h0 (by rw [h]; rfl) rfl hcl (by decide) hdg kk
  · rw [show ol_p ((ro a = 3 ∨ ro a = 6 ∨ ro a = 7)) = 0 from ol_p_f (by omega)] at kk
    exact ol_instNo (ci := 7) C h0 (by rw [h]; rfl) rfl hcl (by decide) hdg kk
theorem ol_inq_City {q : Option Nat} {index : Nat} (C : ol_Cx p s m args c cc nL own D cA A) (ht : ∀ a, q = some a → ol_th ro a) (hcl : Cond.classLink own index "ObjectLoads$City" ∈ ol_all) (hdg : decode cc pc = .ok (.instanceof index, 3)) (kk : ol_W p l e R s m args below meth c D cA A Q nL ro I F cells slots (pc + 3) lv (.int (ol_p (∃ a, q = some a ∧ (ro a = 3 ∨ ro a = 6 ∨ ro a = 7))) :: rest)) : ol_W p l e R s m args below meth c D cA A Q nL ro I F cells slots pc lv (va_rf q :: rest) := by
  cases q with
  | none =>
    rw [show ol_p (∃ a, (none : Option Nat) = some a ∧ (ro a = 3 ∨ ro a = 6 ∨ ro a = 7)) = 0 from ol_p_f (by rintro ⟨a, h, -⟩; cases h)] at kk
    exact ol_instN C hdg kk
  | some a =>
    rw [show ol_p (∃ b, some a = some b ∧ (ro b = 3 ∨ ro b = 6 ∨ ro b = 7)) = ol_p ((ro a = 3 ∨ ro a = 6 ∨ ro a = 7)) from ol_p_c ⟨by rintro ⟨b, h, h2⟩; cases h; exact h2, fun h => ⟨a, rfl, h⟩⟩] at kk
    exact ol_in_City C (ht a rfl) hcl hdg kk
theorem ol_in_Masked {a index : Nat} (C : ol_Cx p s m args c cc nL own D cA A) (ht : ol_th ro a) (hcl : Cond.classLink own index "ObjectLoads$Masked" ∈ ol_all) (hdg : decode cc pc = .ok (.instanceof index, 3)) (kk : ol_W p l e R s m args below meth c D cA A Q nL ro I F cells slots (pc + 3) lv (.int (ol_p (ro a = 6)) :: rest)) : ol_W p l e R s m args below meth c D cA A Q nL ro I F cells slots pc lv (.ref a :: rest) := by
  have h0 : ro a ≠ 0 := by have := ht.1; omega
  have h3 : ro a = 2 ∨ ro a = 3 ∨ ro a = 4 ∨ ro a = 5 ∨ ro a = 6 ∨ ro a = 7 ∨ ro a = 8 := by have := ht.1; have := ht.2; omega
  rcases h3 with h | h | h | h | h | h | h
  · rw [show ol_p (ro a = 6) = 0 from ol_p_f (by omega)] at kk
    exact ol_instNo (ci := 1) C h0 (by rw [h]; rfl) rfl hcl (by decide) hdg kk
  · rw [show ol_p (ro a = 6) = 0 from ol_p_f (by omega)] at kk
    exact ol_instNo (ci := 2) C h0 (by rw [h]; rfl) rfl hcl (by decide) hdg kk
  · rw [show ol_p (ro a = 6) = 0 from ol_p_f (by omega)] at kk
    exact ol_instNo (ci := 3) C h0 (by rw [h]; rfl) rfl hcl (by decide) hdg kk
  · rw [show ol_p (ro a = 6) = 0 from ol_p_f (by omega)] at kk
    exact ol_instNo (ci := 4) C h0 (by rw [h]; rfl) rfl hcl (by decide) hdg kk
  · rw [show ol_p (ro a = 6) = 1 from ol_p_t (by omega)] at kk
    exact ol_instY (ci := 5) C h0 (by rw [h]; rfl) rfl hcl (by decide) hdg kk
  · rw [show ol_p (ro a = 6) = 0 from ol_p_f (by omega)] at kk
    exact ol_instNo (ci := 6) C h0 (by rw [h]; rfl) rfl hcl (by decide) hdg kk
  · rw [show ol_p (ro a = 6) = 0 from ol_p_f (by omega)] at kk
    exact ol_instNo (ci := 7) C h0 (by rw [h]; rfl) rfl hcl (by decide) hdg kk
theorem ol_inq_Masked {q : Option Nat} {index : Nat} (C : ol_Cx p s m args c cc nL own D cA A) (ht : ∀ a, q = some a → ol_th ro a) (hcl : Cond.classLink own index "ObjectLoads$Masked" ∈ ol_all) (hdg : decode cc pc = .ok (.instanceof index, 3)) (kk : ol_W p l e R s m args below meth c D cA A Q nL ro I F cells slots (pc + 3) lv (.int (ol_p (∃ a, q = some a ∧ ro a = 6)) :: rest)) : ol_W p l e R s m args below meth c D cA A Q nL ro I F cells slots pc lv (va_rf q :: rest) := by
  cases q with
  | none =>
    rw [show ol_p (∃ a, (none : Option Nat) = some a ∧ ro a = 6) = 0 from ol_p_f (by rintro ⟨a, h, -⟩; cases h)] at kk
    exact ol_instN C hdg kk
  | some a =>
    rw [show ol_p (∃ b, some a = some b ∧ ro b = 6) = ol_p (ro a = 6) from ol_p_c ⟨by rintro ⟨b, h, h2⟩; cases h; exact h2, fun h => ⟨a, rfl, h⟩⟩] at kk
    exact ol_in_Masked C (ht a rfl) hcl hdg kk
theorem ol_ca_Bridge {a index : Nat} (C : ol_Cx p s m args c cc nL own D cA A) (ht : ol_th ro a) (hb : ro a = 4) (hcl : Cond.classLink own index "ObjectLoads$Bridge" ∈ ol_all) (hdg : decode cc pc = .ok (.checkcast index, 3)) (kk : ol_W p l e R s m args below meth c D cA A Q nL ro I F cells slots (pc + 3) lv (.ref a :: rest)) : ol_W p l e R s m args below meth c D cA A Q nL ro I F cells slots pc lv (.ref a :: rest) := by
  have h0 : ro a ≠ 0 := by have := ht.1; omega
  exact ol_cast (ci := 3) C h0 (by rw [hb]; rfl) rfl hcl (by decide) hdg kk
theorem ol_ca_Node {a index : Nat} (C : ol_Cx p s m args c cc nL own D cA A) (ht : ol_th ro a) (hb : ¬ ro a = 4) (hcl : Cond.classLink own index "ObjectLoads$Node" ∈ ol_all) (hdg : decode cc pc = .ok (.checkcast index, 3)) (kk : ol_W p l e R s m args below meth c D cA A Q nL ro I F cells slots (pc + 3) lv (.ref a :: rest)) : ol_W p l e R s m args below meth c D cA A Q nL ro I F cells slots pc lv (.ref a :: rest) := by
  have h0 : ro a ≠ 0 := by have := ht.1; omega
  have h3 : ro a = 2 ∨ ro a = 3 ∨ ro a = 5 ∨ ro a = 6 ∨ ro a = 7 ∨ ro a = 8 := by have := ht.1; have := ht.2; omega
  rcases h3 with h | h | h | h | h | h
  · exact ol_cast (ci := 1) C h0 (by rw [h]; rfl) rfl hcl (by decide) hdg kk
  · exact ol_cast (ci := 2) C h0 (by rw [h]; rfl) rfl hcl (by decide) hdg kk
  · exact ol_cast (ci := 4) C h0 (by rw [h]; rfl) rfl hcl (by decide) hdg kk
  · exact ol_cast (ci := 5) C h0 (by rw [h]; rfl) rfl hcl (by decide) hdg kk
  · exact ol_cast (ci := 6) C h0 (by rw [h]; rfl) rfl hcl (by decide) hdg kk
  · exact ol_cast (ci := 7) C h0 (by rw [h]; rfl) rfl hcl (by decide) hdg kk
end OLIN

set_option maxRecDepth 100000 in
set_option maxHeartbeats 4000000 in
theorem x_keyCause9 (l : Launch) (D : va_G) (cA : Nat → ClassId) {ro : Nat → Nat} {I : Nat → Nat → Int32} {F : Nat → Nat → Option Nat} {a : Nat} (ht : ol_th ro a) : ol_M l D cA yX9_keyCause cX9_keyCause 1 (some FieldType.int) (ol_r 0 0 0) [.ref a] ro I F (ol_ei 0 ro I F) := by
  refine ol_M.of (by decide +kernel) (Nat.le_of_ble_eq_true rfl) (by simp [Value.category, ol_rfc]) ?_
  intro p e s m args below meth c C hret hlk hin
  refine ol_iconst (v := 0) C dX9_keyCause_0 (by decide) ?_
  exact ol_iret C hret hlk rfl (by decide) (by decide) dX9_keyCause_1 ⟨rfl, rfl, rfl, rfl⟩

set_option maxRecDepth 100000 in
set_option maxHeartbeats 4000000 in
theorem x_toldKey (l : Launch) (D : va_G) (cA : Nat → ClassId) {ro : Nat → Nat} {I : Nat → Nat → Int32} {F : Nat → Nat → Option Nat} {a : Nat} (ht : ol_th ro a) : ol_M l D cA yX9_toldKey cX9_toldKey 1 (some FieldType.int) (ol_r 0 0 0) [.ref a] ro I F (ol_ei (I a 2) ro I F) := by
  refine ol_M.of (by decide +kernel) (Nat.le_of_ble_eq_true rfl) (by simp [Value.category, ol_rfc]) ?_
  intro p e s m args below meth c C hret hlk hin
  refine ol_aload_n C dX9_toldKey_0 rfl rfl (by first | exact ol_isq_r _ | exact ol_isq_q _ | exact ol_isq_n) ?_
  refine ol_tgI C (by assumption) ol_tf2 wd_146 (.inl rfl) dX9_toldKey_1 ?_
  exact ol_iret C hret hlk rfl (by decide) (by decide) dX9_toldKey_4 ⟨rfl, rfl, rfl, rfl⟩

set_option maxRecDepth 100000 in
set_option maxHeartbeats 4000000 in
theorem x_valueCause9 (l : Launch) (D : va_G) (cA : Nat → ClassId) {ro : Nat → Nat} {I : Nat → Nat → Int32} {F : Nat → Nat → Option Nat} {a : Nat} (ht : ol_th ro a) : ol_M l D cA yX9_valueCause cX9_valueCause 1 (some FieldType.int) (ol_r 0 0 0) [.ref a] ro I F (ol_ei 0 ro I F) := by
  refine ol_M.of (by decide +kernel) (Nat.le_of_ble_eq_true rfl) (by simp [Value.category, ol_rfc]) ?_
  intro p e s m args below meth c C hret hlk hin
  refine ol_iconst (v := 0) C dX9_valueCause_0 (by decide) ?_
  exact ol_iret C hret hlk rfl (by decide) (by decide) dX9_valueCause_1 ⟨rfl, rfl, rfl, rfl⟩

set_option maxRecDepth 100000 in
set_option maxHeartbeats 4000000 in
theorem x_toldValue9 (l : Launch) (D : va_G) (cA : Nat → ClassId) {ro : Nat → Nat} {I : Nat → Nat → Int32} {F : Nat → Nat → Option Nat} {a : Nat} (ht : ol_th ro a) : ol_M l D cA yX9_toldValue cX9_toldValue 1 (some FieldType.int) (ol_r 0 0 0) [.ref a] ro I F (ol_ei (I a 3) ro I F) := by
  refine ol_M.of (by decide +kernel) (Nat.le_of_ble_eq_true rfl) (by simp [Value.category, ol_rfc]) ?_
  intro p e s m args below meth c C hret hlk hin
  refine ol_aload_n C dX9_toldValue_0 rfl rfl (by first | exact ol_isq_r _ | exact ol_isq_q _ | exact ol_isq_n) ?_
  refine ol_tgI C (by assumption) ol_tf3 wd_148 (.inl rfl) dX9_toldValue_1 ?_
  exact ol_iret C hret hlk rfl (by decide) (by decide) dX9_toldValue_4 ⟨rfl, rfl, rfl, rfl⟩

set_option maxRecDepth 100000 in
set_option maxHeartbeats 4000000 in
theorem x_linksCause9 (l : Launch) (D : va_G) (cA : Nat → ClassId) {ro : Nat → Nat} {I : Nat → Nat → Int32} {F : Nat → Nat → Option Nat} {a : Nat} (ht : ol_th ro a) : ol_M l D cA yX9_linksCause cX9_linksCause 1 (some FieldType.int) (ol_r 0 0 0) [.ref a] ro I F (ol_ei 0 ro I F) := by
  refine ol_M.of (by decide +kernel) (Nat.le_of_ble_eq_true rfl) (by simp [Value.category, ol_rfc]) ?_
  intro p e s m args below meth c C hret hlk hin
  refine ol_iconst (v := 0) C dX9_linksCause_0 (by decide) ?_
  exact ol_iret C hret hlk rfl (by decide) (by decide) dX9_linksCause_1 ⟨rfl, rfl, rfl, rfl⟩

set_option maxRecDepth 100000 in
set_option maxHeartbeats 4000000 in
theorem x_keyCause3 (l : Launch) (D : va_G) (cA : Nat → ClassId) {ro : Nat → Nat} {I : Nat → Nat → Int32} {F : Nat → Nat → Option Nat} {a : Nat} (ht : ol_th ro a) : ol_M l D cA yX3_keyCause cX3_keyCause 1 (some FieldType.int) (ol_r 0 0 0) [.ref a] ro I F (ol_ei (ol_p (I a 5 = 0)) ro I F) := by
  refine ol_M.of (by decide +kernel) (Nat.le_of_ble_eq_true rfl) (by simp [Value.category, ol_rfc]) ?_
  intro p e s m args below meth c C hret hlk hin
  refine ol_aload_n C dX3_keyCause_0 rfl rfl (by first | exact ol_isq_r _ | exact ol_isq_q _ | exact ol_isq_n) ?_
  refine ol_tgI C (by assumption) ol_tf5 wd_161 (.inr wd_162) dX3_keyCause_1 ?_
  refine ol_if_eq (tgt := 11) C dX3_keyCause_4 (by decide) (fun c_4 => ?_) (fun c_4 => ?_)
  · refine ol_iconst (v := 1) C dX3_keyCause_11 (by decide) ?_
    exact ol_iret C hret hlk rfl (by decide) (by decide) dX3_keyCause_12 ⟨ol_pt c_4, rfl, rfl, rfl⟩
  · refine ol_iconst (v := 0) C dX3_keyCause_7 (by decide) ?_
    refine ol_goto (tgt := 12) C dX3_keyCause_8 (by decide) ?_
    exact ol_iret C hret hlk rfl (by decide) (by decide) dX3_keyCause_12 ⟨ol_pf c_4, rfl, rfl, rfl⟩

set_option maxRecDepth 100000 in
set_option maxHeartbeats 4000000 in
theorem x_valueCause1 (l : Launch) (D : va_G) (cA : Nat → ClassId) {ro : Nat → Nat} {I : Nat → Nat → Int32} {F : Nat → Nat → Option Nat} {a : Nat} (ht : ol_th ro a) : ol_M l D cA yX1_valueCause cX1_valueCause 1 (some FieldType.int) (ol_r 0 0 0) [.ref a] ro I F (ol_ei (ol_if (I a 3 = 0) 4 0) ro I F) := by
  refine ol_M.of (by decide +kernel) (Nat.le_of_ble_eq_true rfl) (by simp [Value.category, ol_rfc]) ?_
  intro p e s m args below meth c C hret hlk hin
  refine ol_aload_n C dX1_valueCause_0 rfl rfl (by first | exact ol_isq_r _ | exact ol_isq_q _ | exact ol_isq_n) ?_
  refine ol_tgI C (by assumption) ol_tf3 wd_149 (.inr wd_150) dX1_valueCause_1 ?_
  refine ol_if_ne (tgt := 11) C dX1_valueCause_4 (by decide) (fun c_4 => ?_) (fun c_4 => ?_)
  · refine ol_iconst (v := 0) C dX1_valueCause_11 (by decide) ?_
    exact ol_iret C hret hlk rfl (by decide) (by decide) dX1_valueCause_12 ⟨by rw [ol_if_f c_4], rfl, rfl, rfl⟩
  · refine ol_iconst (v := 4) C dX1_valueCause_7 (by decide) ?_
    refine ol_goto (tgt := 12) C dX1_valueCause_8 (by decide) ?_
    exact ol_iret C hret hlk rfl (by decide) (by decide) dX1_valueCause_12 ⟨by rw [ol_if_t c_4], rfl, rfl, rfl⟩

set_option maxRecDepth 100000 in
set_option maxHeartbeats 4000000 in
theorem x_toldValue1 (l : Launch) (D : va_G) (cA : Nat → ClassId) {ro : Nat → Nat} {I : Nat → Nat → Int32} {F : Nat → Nat → Option Nat} {a : Nat} (ht : ol_th ro a) : ol_M l D cA yX1_toldValue cX1_toldValue 1 (some FieldType.int) (ol_r 0 0 0) [.ref a] ro I F (ol_ei (ol_if (I a 3 = 0) 0 (100 / I a 3)) ro I F) := by
  refine ol_M.of (by decide +kernel) (Nat.le_of_ble_eq_true rfl) (by simp [Value.category, ol_rfc]) ?_
  intro p e s m args below meth c C hret hlk hin
  refine ol_aload_n C dX1_toldValue_0 rfl rfl (by first | exact ol_isq_r _ | exact ol_isq_q _ | exact ol_isq_n) ?_
  refine ol_tgI C (by assumption) ol_tf3 wd_149 (.inr wd_150) dX1_toldValue_1 ?_
  refine ol_if_ne (tgt := 11) C dX1_toldValue_4 (by decide) (fun c_4 => ?_) (fun c_4 => ?_)
  · refine ol_bipush (v := 100) C dX1_toldValue_11 (by decide) ?_
    refine ol_aload_n C dX1_toldValue_13 rfl rfl (by first | exact ol_isq_r _ | exact ol_isq_q _ | exact ol_isq_n) ?_
    refine ol_tgI C (by assumption) ol_tf3 wd_149 (.inr wd_150) dX1_toldValue_14 ?_
    refine ol_idiv C dX1_toldValue_17 c_4 ?_
    exact ol_iret C hret hlk rfl (by decide) (by decide) dX1_toldValue_18 ⟨by rw [ol_if_f c_4], rfl, rfl, rfl⟩
  · refine ol_iconst (v := 0) C dX1_toldValue_7 (by decide) ?_
    refine ol_goto (tgt := 18) C dX1_toldValue_8 (by decide) ?_
    exact ol_iret C hret hlk rfl (by decide) (by decide) dX1_toldValue_18 ⟨by rw [ol_if_t c_4], rfl, rfl, rfl⟩

set_option maxRecDepth 100000 in
set_option maxHeartbeats 4000000 in
theorem x_toldValue2 (l : Launch) (D : va_G) (cA : Nat → ClassId) {ro : Nat → Nat} {I : Nat → Nat → Int32} {F : Nat → Nat → Option Nat} {a : Nat} (ht : ol_th ro a) : ol_M l D cA yX2_toldValue cX2_toldValue 1 (some FieldType.int) (ol_r 0 0 0) [.ref a] ro I F (ol_ei (2 * I a 3) ro I F) := by
  refine ol_M.of (by decide +kernel) (Nat.le_of_ble_eq_true rfl) (by simp [Value.category, ol_rfc]) ?_
  intro p e s m args below meth c C hret hlk hin
  refine ol_iconst (v := 2) C dX2_toldValue_0 (by decide) ?_
  refine ol_aload_n C dX2_toldValue_1 rfl rfl (by first | exact ol_isq_r _ | exact ol_isq_q _ | exact ol_isq_n) ?_
  refine ol_tgI C (by assumption) ol_tf3 wd_153 (.inr wd_154) dX2_toldValue_2 ?_
  refine ol_imul C dX2_toldValue_5 ?_
  exact ol_iret C hret hlk rfl (by decide) (by decide) dX2_toldValue_6 ⟨rfl, rfl, rfl, rfl⟩

set_option maxRecDepth 100000 in
set_option maxHeartbeats 4000000 in
theorem x_toldValue5 (l : Launch) (D : va_G) (cA : Nat → ClassId) {ro : Nat → Nat} {I : Nat → Nat → Int32} {F : Nat → Nat → Option Nat} {a : Nat} (ht : ol_th ro a) (hr : ro a = 6) : ol_M l D cA yX5_toldValue cX5_toldValue 1 (some FieldType.int) (ol_r 1 0 0) [.ref a] ro I F (ol_ei (2 * I a 3 + 1) ro I F) := by
  refine ol_M.of (by decide +kernel) (Nat.le_of_ble_eq_true rfl) (by simp [Value.category, ol_rfc]) ?_
  intro p e s m args below meth c C hret hlk hin
  have hi : ol_is ro a (.inl 5) := ol_is_of hr (by decide) rfl
  refine ol_aload_n C dX5_toldValue_0 rfl rfl (by first | exact ol_isq_r _ | exact ol_isq_q _ | exact ol_isq_n) ?_
  refine ol_callSU C (x_toldValue2 l D cA ht) hi.1 hi.2 rfl wd_402 wd_7 wd_407 wd_808 wd_229 wd_401 mhs_X2_toldValue (by decide) rfl (by first | exact Nat.le_of_ble_eq_true rfl | simp [ol_rfc, Value.category]) dX5_toldValue_1 (ol_xi ?_)
  refine ol_iconst (v := 1) C dX5_toldValue_4 (by decide) ?_
  refine ol_iadd C dX5_toldValue_5 ?_
  exact ol_iret C hret hlk rfl (by decide) (by decide) dX5_toldValue_6 ⟨rfl, rfl, rfl, rfl⟩

set_option maxRecDepth 100000 in
set_option maxHeartbeats 4000000 in
theorem x_toldValue8 (l : Launch) (D : va_G) (cA : Nat → ClassId) {ro : Nat → Nat} {I : Nat → Nat → Int32} {F : Nat → Nat → Option Nat} {a : Nat} (ht : ol_th ro a) : ol_M l D cA yX8_toldValue cX8_toldValue 1 (some FieldType.int) (ol_r 0 0 0) [.ref a] ro I F (ol_ei (I a 3) ro I F) := by
  refine ol_M.of (by decide +kernel) (Nat.le_of_ble_eq_true rfl) (by simp [Value.category, ol_rfc]) ?_
  intro p e s m args below meth c C hret hlk hin
  refine ol_aload_n C dX8_toldValue_0 rfl rfl (by first | exact ol_isq_r _ | exact ol_isq_q _ | exact ol_isq_n) ?_
  refine ol_tgI C (by assumption) ol_tf3 wd_151 (.inr wd_152) dX8_toldValue_1 ?_
  exact ol_iret C hret hlk rfl (by decide) (by decide) dX8_toldValue_4 ⟨rfl, rfl, rfl, rfl⟩

set_option maxRecDepth 100000 in
set_option maxHeartbeats 4000000 in
theorem x_linksCause7 (l : Launch) (D : va_G) (cA : Nat → ClassId) {ro : Nat → Nat} {I : Nat → Nat → Int32} {F : Nat → Nat → Option Nat} {a : Nat} (ht : ol_th ro a) (hn : ∀ b, F a 4 = some b → ol_th ro b) : ol_M l D cA yX7_linksCause cX7_linksCause 1 (some FieldType.int) (ol_r 0 0 0) [.ref a] ro I F (ol_ei (ol_if (∃ b, F a 4 = some b ∧ ro b = 4) 3 0) ro I F) := by
  refine ol_M.of (by decide +kernel) (Nat.le_of_ble_eq_true rfl) (by simp [Value.category, ol_rfc]) ?_
  intro p e s m args below meth c C hret hlk hin
  refine ol_aload_n C dX7_linksCause_0 rfl rfl (by first | exact ol_isq_r _ | exact ol_isq_q _ | exact ol_isq_n) ?_
  refine ol_tgR C (by assumption) ol_tf4 wd_157 (.inr wd_158) dX7_linksCause_1 ?_
  refine ol_inq_Bridge C hn wd_424 dX7_linksCause_4 ?_
  refine ol_if_eq (tgt := 14) C dX7_linksCause_7 (by decide) (fun c_7 => ?_) (fun c_7 => ?_)
  · refine ol_iconst (v := 0) C dX7_linksCause_14 (by decide) ?_
    exact ol_iret C hret hlk rfl (by decide) (by decide) dX7_linksCause_15 ⟨by rw [ol_if_f (ol_p_0.mp c_7)], rfl, rfl, rfl⟩
  · refine ol_iconst (v := 3) C dX7_linksCause_10 (by decide) ?_
    refine ol_goto (tgt := 15) C dX7_linksCause_11 (by decide) ?_
    exact ol_iret C hret hlk rfl (by decide) (by decide) dX7_linksCause_15 ⟨by rw [ol_if_t (ol_p_n.mp c_7)], rfl, rfl, rfl⟩

set_option maxRecDepth 100000 in
set_option maxHeartbeats 4000000 in
theorem x_linkCount7 (l : Launch) (D : va_G) (cA : Nat → ClassId) {ro : Nat → Nat} {I : Nat → Nat → Int32} {F : Nat → Nat → Option Nat} {a : Nat} (ht : ol_th ro a) : ol_M l D cA yX7_linkCount cX7_linkCount 1 (some FieldType.int) (ol_r 0 0 0) [.ref a] ro I F (ol_ei (ol_if (F a 4 = none) 0 1) ro I F) := by
  refine ol_M.of (by decide +kernel) (Nat.le_of_ble_eq_true rfl) (by simp [Value.category, ol_rfc]) ?_
  intro p e s m args below meth c C hret hlk hin
  refine ol_aload_n C dX7_linkCount_0 rfl rfl (by first | exact ol_isq_r _ | exact ol_isq_q _ | exact ol_isq_n) ?_
  refine ol_tgR C (by assumption) ol_tf4 wd_157 (.inr wd_158) dX7_linkCount_1 ?_
  refine ol_ifnonnull (tgt := 11) C dX7_linkCount_4 (by decide) (fun a_4 c_4 => ?_) (fun c_4 => ?_)
  · refine ol_iconst (v := 1) C dX7_linkCount_11 (by decide) ?_
    exact ol_iret C hret hlk rfl (by decide) (by decide) dX7_linkCount_12 ⟨by rw [ol_if_f (by rw [c_4]; simp)], rfl, rfl, rfl⟩
  · refine ol_iconst (v := 0) C dX7_linkCount_7 (by decide) ?_
    refine ol_goto (tgt := 12) C dX7_linkCount_8 (by decide) ?_
    exact ol_iret C hret hlk rfl (by decide) (by decide) dX7_linkCount_12 ⟨by rw [ol_if_t c_4], rfl, rfl, rfl⟩

set_option maxRecDepth 100000 in
set_option maxHeartbeats 4000000 in
theorem x_link7 (l : Launch) (D : va_G) (cA : Nat → ClassId) {ro : Nat → Nat} {I : Nat → Nat → Int32} {F : Nat → Nat → Option Nat} {a : Nat} (ht : ol_th ro a) (i : Int32) : ol_M l D cA yX7_link cX7_link 2 (some (FieldType.object "ObjectLoads$Thing")) (ol_r 0 0 0) [.ref a, .int i] ro I F (ol_eq (F a 4) ro I F) := by
  refine ol_M.of (by decide +kernel) (Nat.le_of_ble_eq_true rfl) (by simp [Value.category, ol_rfc]) ?_
  intro p e s m args below meth c C hret hlk hin
  refine ol_aload_n C dX7_link_0 rfl rfl (by first | exact ol_isq_r _ | exact ol_isq_q _ | exact ol_isq_n) ?_
  refine ol_tgR C (by assumption) ol_tf4 wd_157 (.inr wd_158) dX7_link_1 ?_
  exact ol_aret C rfl hret (Or.inl ⟨_, rfl⟩) hlk (by decide) (by decide) dX7_link_4 ⟨rfl, rfl, rfl, rfl⟩

set_option maxRecDepth 100000 in
set_option maxHeartbeats 4000000 in
theorem x_linkCount0 (l : Launch) (D : va_G) (cA : Nat → ClassId) {ro : Nat → Nat} {I : Nat → Nat → Int32} {F : Nat → Nat → Option Nat} {a : Nat} (ht : ol_th ro a) : ol_M l D cA yX0_linkCount cX0_linkCount 1 (some FieldType.int) (ol_r 0 0 0) [.ref a] ro I F (ol_ei 2 ro I F) := by
  refine ol_M.of (by decide +kernel) (Nat.le_of_ble_eq_true rfl) (by simp [Value.category, ol_rfc]) ?_
  intro p e s m args below meth c C hret hlk hin
  refine ol_iconst (v := 2) C dX0_linkCount_0 (by decide) ?_
  exact ol_iret C hret hlk rfl (by decide) (by decide) dX0_linkCount_1 ⟨rfl, rfl, rfl, rfl⟩

set_option maxRecDepth 100000 in
set_option maxHeartbeats 4000000 in
theorem x_linkCount2 (l : Launch) (D : va_G) (cA : Nat → ClassId) {ro : Nat → Nat} {I : Nat → Nat → Int32} {F : Nat → Nat → Option Nat} {a : Nat} (ht : ol_th ro a) : ol_M l D cA yX2_linkCount cX2_linkCount 1 (some FieldType.int) (ol_r 0 0 0) [.ref a] ro I F (ol_ei 6 ro I F) := by
  refine ol_M.of (by decide +kernel) (Nat.le_of_ble_eq_true rfl) (by simp [Value.category, ol_rfc]) ?_
  intro p e s m args below meth c C hret hlk hin
  refine ol_bipush (v := 6) C dX2_linkCount_0 (by decide) ?_
  exact ol_iret C hret hlk rfl (by decide) (by decide) dX2_linkCount_2 ⟨rfl, rfl, rfl, rfl⟩

set_option maxRecDepth 100000 in
set_option maxHeartbeats 4000000 in
theorem x_linkCount8 (l : Launch) (D : va_G) (cA : Nat → ClassId) {ro : Nat → Nat} {I : Nat → Nat → Int32} {F : Nat → Nat → Option Nat} {a : Nat} (ht : ol_th ro a) : ol_M l D cA yX8_linkCount cX8_linkCount 1 (some FieldType.int) (ol_r 0 0 0) [.ref a] ro I F (ol_ei 1 ro I F) := by
  refine ol_M.of (by decide +kernel) (Nat.le_of_ble_eq_true rfl) (by simp [Value.category, ol_rfc]) ?_
  intro p e s m args below meth c C hret hlk hin
  refine ol_iconst (v := 1) C dX8_linkCount_0 (by decide) ?_
  exact ol_iret C hret hlk rfl (by decide) (by decide) dX8_linkCount_1 ⟨rfl, rfl, rfl, rfl⟩

set_option maxRecDepth 100000 in
set_option maxHeartbeats 4000000 in
theorem x_link2 (l : Launch) (D : va_G) (cA : Nat → ClassId) {ro : Nat → Nat} {I : Nat → Nat → Int32} {F : Nat → Nat → Option Nat} {a pa : Nat} (ht : ol_th ro a) (hF : F a 1 = some pa) (hp : ol_is ro pa (.inr (2, 6))) (i : Int32) : ol_M l D cA yX2_link cX2_link 2 (some (FieldType.object "ObjectLoads$Thing")) (ol_r 1 0 0) [.ref a, .int i] ro I F (ol_eq (ol_if (ol_k 6 i) (F pa i.toNatClampNeg) none) ro I F) := by
  refine ol_M.of (by decide +kernel) (Nat.le_of_ble_eq_true rfl) (by simp [Value.category, ol_rfc]) ?_
  intro p e s m args below meth c C hret hlk hin
  refine ol_iload_n C dX2_link_0 rfl rfl ?_
  refine ol_callSN (host := "ObjectLoads") C (m_isPlace l D cA i) wd_300 wd_1 (by decide) wd_299 mh_X10_isPlace (by decide) rfl (by first | exact Nat.le_of_ble_eq_true rfl | simp [ol_rfc, Value.category]) dX2_link_1 (ol_xi ?_)
  refine ol_if_eq (tgt := 16) C dX2_link_4 (by decide) (fun c_4 => ?_) (fun c_4 => ?_)
  · have hK : ¬ ol_k 6 i := ol_p_0.mp c_4
    refine ol_null C dX2_link_16 ?_
    exact ol_aret (r := none) C rfl hret (Or.inl ⟨_, rfl⟩) hlk (by decide) (by decide) dX2_link_17 ⟨ol_ifq hK, rfl, rfl, rfl⟩
  · have hK : ol_k 6 i := ol_p_n.mp c_4
    obtain ⟨j, hj, ej, hj31⟩ := ol_k_ix hK (by omega)
    refine ol_aload_n C dX2_link_7 rfl rfl (by first | exact ol_isq_r _ | exact ol_isq_q _ | exact ol_isq_n) ?_
    refine ol_tgR C (by assumption) ol_tf1 wd_143 (.inr wd_144) dX2_link_8 ?_
    refine ol_rf (by assumption) ?_
    refine ol_iload_n C dX2_link_11 rfl rfl ?_
    refine ol_lT j C (by assumption) ej hj (by decide) dX2_link_12 ?_
    refine ol_goto (tgt := 17) C dX2_link_13 (by decide) ?_
    exact ol_aret C rfl hret (Or.inl ⟨_, rfl⟩) hlk (by decide) (by decide) dX2_link_17 ⟨by rw [ol_if_t hK, ej, nI_clamp hj31], rfl, rfl, rfl⟩

set_option maxRecDepth 100000 in
set_option maxHeartbeats 4000000 in
theorem x_link8 (l : Launch) (D : va_G) (cA : Nat → ClassId) {ro : Nat → Nat} {I : Nat → Nat → Int32} {F : Nat → Nat → Option Nat} {a pa : Nat} (ht : ol_th ro a) (hF : F a 1 = some pa) (hp : ol_is ro pa (.inr (2, 6))) (hr : ro a = 7) (i : Int32) : ol_M l D cA yX8_link cX8_link 2 (some (FieldType.object "ObjectLoads$Thing")) (ol_r 2 0 0) [.ref a, .int i] ro I F (ol_eq (ol_if (ol_k 6 (I a 3)) (F pa (I a 3).toNatClampNeg) none) ro I F) := by
  refine ol_M.of (by decide +kernel) (Nat.le_of_ble_eq_true rfl) (by simp [Value.category, ol_rfc]) ?_
  intro p e s m args below meth c C hret hlk hin
  have hi : ol_is ro a (.inl 6) := ol_is_of hr (by decide) rfl
  refine ol_aload_n C dX8_link_0 rfl rfl (by first | exact ol_isq_r _ | exact ol_isq_q _ | exact ol_isq_n) ?_
  refine ol_aload_n C dX8_link_1 rfl rfl (by first | exact ol_isq_r _ | exact ol_isq_q _ | exact ol_isq_n) ?_
  refine ol_tgI C (by assumption) ol_tf3 wd_151 (.inr wd_152) dX8_link_2 ?_
  refine ol_callSU C (x_link2 l D cA ht hF hp (I a 3)) hi.1 hi.2 rfl wd_461 wd_7 wd_469 wd_809 wd_243 wd_460 mhs_X2_link (by decide) rfl (by first | exact Nat.le_of_ble_eq_true rfl | simp [ol_rfc, Value.category]) dX8_link_5 (ol_xq ?_)
  exact ol_aret C rfl hret (Or.inl ⟨_, rfl⟩) hlk (by decide) (by decide) dX8_link_8 ⟨rfl, rfl, rfl, rfl⟩

set_option maxRecDepth 100000 in
set_option maxHeartbeats 4000000 in
theorem x_linksCause8 (l : Launch) (D : va_G) (cA : Nat → ClassId) {ro : Nat → Nat} {I : Nat → Nat → Int32} {F : Nat → Nat → Option Nat} {a : Nat} (ht : ol_th ro a) : ol_M l D cA yX8_linksCause cX8_linksCause 1 (some FieldType.int) (ol_r 1 0 0) [.ref a] ro I F (ol_ei (ol_if (ol_k 6 (I a 3)) 0 2) ro I F) := by
  refine ol_M.of (by decide +kernel) (Nat.le_of_ble_eq_true rfl) (by simp [Value.category, ol_rfc]) ?_
  intro p e s m args below meth c C hret hlk hin
  refine ol_aload_n C dX8_linksCause_0 rfl rfl (by first | exact ol_isq_r _ | exact ol_isq_q _ | exact ol_isq_n) ?_
  refine ol_tgI C (by assumption) ol_tf3 wd_151 (.inr wd_152) dX8_linksCause_1 ?_
  refine ol_callSN (host := "ObjectLoads") C (m_isPlace l D cA (I a 3)) wd_300 wd_1 (by decide) wd_299 mh_X10_isPlace (by decide) rfl (by first | exact Nat.le_of_ble_eq_true rfl | simp [ol_rfc, Value.category]) dX8_linksCause_4 (ol_xi ?_)
  refine ol_if_eq (tgt := 14) C dX8_linksCause_7 (by decide) (fun c_7 => ?_) (fun c_7 => ?_)
  · refine ol_iconst (v := 2) C dX8_linksCause_14 (by decide) ?_
    exact ol_iret C hret hlk rfl (by decide) (by decide) dX8_linksCause_15 ⟨by rw [ol_if_f (show ¬ ol_k 6 (I a 3) from ol_p_0.mp c_7)], rfl, rfl, rfl⟩
  · refine ol_iconst (v := 0) C dX8_linksCause_10 (by decide) ?_
    refine ol_goto (tgt := 15) C dX8_linksCause_11 (by decide) ?_
    exact ol_iret C hret hlk rfl (by decide) (by decide) dX8_linksCause_15 ⟨by rw [ol_if_t (show ol_k 6 (I a 3) from ol_p_n.mp c_7)], rfl, rfl, rfl⟩

set_option maxRecDepth 100000 in
set_option maxHeartbeats 4000000 in
theorem x_otherEnd (l : Launch) (D : va_G) (cA : Nat → ClassId) {ro : Nat → Nat} {I : Nat → Nat → Int32} {F : Nat → Nat → Option Nat} {a pa : Nat} (ht : ol_th ro a) (hF : F a 1 = some pa) (hp : ol_is ro pa (.inr (2, 6))) {b : Nat} : ol_M l D cA yX0_otherEnd cX0_otherEnd 2 (some (FieldType.object "ObjectLoads$Thing")) (ol_r 0 0 0) [.ref a, .ref b] ro I F (ol_eq (ol_if (F pa 0 = some b) (F pa 1) (F pa 0)) ro I F) := by
  refine ol_M.of (by decide +kernel) (Nat.le_of_ble_eq_true rfl) (by simp [Value.category, ol_rfc]) ?_
  intro p e s m args below meth c C hret hlk hin
  refine ol_aload_n C dX0_otherEnd_0 rfl rfl (by first | exact ol_isq_r _ | exact ol_isq_q _ | exact ol_isq_n) ?_
  refine ol_tgR C (by assumption) ol_tf1 wd_141 (.inr wd_142) dX0_otherEnd_1 ?_
  refine ol_rf (by assumption) ?_
  refine ol_iconst (v := 0) C dX0_otherEnd_4 (by decide) ?_
  refine ol_lT 0 C (by assumption) rfl (by decide) (by decide) dX0_otherEnd_5 ?_
  refine ol_aload_n C dX0_otherEnd_6 rfl rfl (by first | exact ol_isq_r _ | exact ol_isq_q _ | exact ol_isq_n) ?_
  refine ol_acmp_ne (tgt := 19) (ry := some b) C dX0_otherEnd_7 (by decide) (fun c_7 => ?_) (fun c_7 => ?_)
  · refine ol_aload_n C dX0_otherEnd_19 rfl rfl (by first | exact ol_isq_r _ | exact ol_isq_q _ | exact ol_isq_n) ?_
    refine ol_tgR C (by assumption) ol_tf1 wd_141 (.inr wd_142) dX0_otherEnd_20 ?_
    refine ol_rf (by assumption) ?_
    refine ol_iconst (v := 0) C dX0_otherEnd_23 (by decide) ?_
    refine ol_lT 0 C (by assumption) rfl (by decide) (by decide) dX0_otherEnd_24 ?_
    exact ol_aret C rfl hret (Or.inl ⟨_, rfl⟩) hlk (by decide) (by decide) dX0_otherEnd_25 ⟨by rw [ol_if_f c_7], rfl, rfl, rfl⟩
  · refine ol_aload_n C dX0_otherEnd_10 rfl rfl (by first | exact ol_isq_r _ | exact ol_isq_q _ | exact ol_isq_n) ?_
    refine ol_tgR C (by assumption) ol_tf1 wd_141 (.inr wd_142) dX0_otherEnd_11 ?_
    refine ol_rf (by assumption) ?_
    refine ol_iconst (v := 1) C dX0_otherEnd_14 (by decide) ?_
    refine ol_lT 1 C (by assumption) rfl (by decide) (by decide) dX0_otherEnd_15 ?_
    refine ol_goto (tgt := 25) C dX0_otherEnd_16 (by decide) ?_
    exact ol_aret C rfl hret (Or.inl ⟨_, rfl⟩) hlk (by decide) (by decide) dX0_otherEnd_25 ⟨by rw [ol_if_t c_7], rfl, rfl, rfl⟩
end
section
def ol_fi (f : Nat → Int32) (n : Nat) (v : Int32) : Nat → Int32 := fun k => if k < n then v else f k
theorem ol_fi_lt {f : Nat → Int32} {n : Nat} {v : Int32} {k : Nat} (h : k < n) : ol_fi f n v k = v := if_pos h
theorem ol_fi_ge {f : Nat → Int32} {n : Nat} {v : Int32} {k : Nat} (h : ¬ k < n) : ol_fi f n v k = f k := if_neg h

set_option maxRecDepth 100000 in
set_option maxHeartbeats 4000000 in
theorem lp_fill {p : Program} {l : Launch} {e : Env} {R : Room} {s : State} {m : MethodId} {args : Array Value} {below : List Frame} {meth : Method} {c : Code} {D : va_G} {cA : Nat → ClassId} {A : Nat → Prop} {Q : State → Prop} {ro : Nat → Nat} {F : Nat → Nat → Option Nat} {cells slots : Nat} (C : ol_Cx p s m args c cJ7_fill_53178 4 yJ7_fill_53178.cls D cA A) {I0 : Nat → Nat → Int32} {a n : Nat} {v : Int32} (hi : ol_is ro a (.inr (0, n))) (hn : n < 2 ^ 31) (ex : ∀ I : Nat → Nat → Int32, (∀ b, b ≠ a → I b = I0 b) → (∀ j, j < n → I a j = v) → (∀ j, n ≤ j → I a j = I0 a j) → ol_W p l e R s m args below meth c D cA A Q 4 ro I F cells slots 20 [some (.ref a), some (.int v), some (.int (nI n)), some (.int (nI n))] []) : ∀ (d k : Nat) (I : Nat → Nat → Int32), k + d = n → (∀ b, b ≠ a → I b = I0 b) → (∀ j, j < k → I a j = v) → (∀ j, k ≤ j → I a j = I0 a j) → ol_W p l e R s m args below meth c D cA A Q 4 ro I F cells slots 5 [some (.ref a), some (.int v), some (.int (nI k)), some (.int (nI n))] [] := by
  intro d
  induction d with
  | zero =>
    intro k I hk h1 h2 h3
    have hk6 : k = n := by omega
    subst hk6
    refine ol_iload_n C dJ7_fill_53178_5 rfl rfl ?_
    refine ol_iload_n C dJ7_fill_53178_6 rfl rfl ?_
    refine ol_icmp_ge (tgt := 20) C dJ7_fill_53178_7 (by decide) (fun c_7 => ?_) (fun c_7 => absurd (Int32.le_refl (nI k)) c_7)
    exact ex I h1 h2 h3
  | succ d ih =>
    intro k I hk h1 h2 h3
    have hk6 : k < n := by omega
    refine ol_iload_n C dJ7_fill_53178_5 rfl rfl ?_
    refine ol_iload_n C dJ7_fill_53178_6 rfl rfl ?_
    refine ol_icmp_ge (tgt := 20) C dJ7_fill_53178_7 (by decide) (fun c_7 => absurd c_7 (nI_ge hk6 hn)) (fun c_7 => ?_)
    refine ol_aload_n C dJ7_fill_53178_10 rfl rfl (by first | exact ol_isq_r _ | exact ol_isq_q _ | exact ol_isq_n) ?_
    refine ol_iload_n C dJ7_fill_53178_11 rfl rfl ?_
    refine ol_iload_n C dJ7_fill_53178_12 rfl rfl ?_
    refine ol_sI k C hi rfl hk6 hn dJ7_fill_53178_13 ?_
    refine ol_iincN C dJ7_fill_53178_14 rfl (by decide) ?_
    refine ol_goto (tgt := 5) C dJ7_fill_53178_17 (by decide) ?_
    refine ih (k + 1) _ (by omega) (fun b hb => (ol_u2_a I _ hb).trans (h1 b hb)) (fun j hj => ?_) (fun j hj => ?_)
    · by_cases e : j = k
      · subst e
        exact ol_u2_s _ _ _ _
      · rw [ol_u2_k I _ e]
        exact h2 j (by omega)
    · rw [ol_u2_k I _ (by omega)]
      exact h3 j (by omega)

set_option maxRecDepth 100000 in
set_option maxHeartbeats 4000000 in
theorem j_fill (l : Launch) (D : va_G) (cA : Nat → ClassId) {ro : Nat → Nat} {I : Nat → Nat → Int32} {F : Nat → Nat → Option Nat} {a n : Nat} (hi : ol_is ro a (.inr (0, n))) (hn : n < 2 ^ 31) (v : Int32) : ol_M l D cA yJ7_fill_53178 cJ7_fill_53178 4 none (ol_r 0 0 0) [.ref a, .int v] ro I F (ol_ev ro (va_up I a (ol_fi (I a) n v)) F) := by
  refine ol_M.of (by decide +kernel) (Nat.le_of_ble_eq_true rfl) (by simp [Value.category, ol_rfc]) ?_
  intro p e s m args below meth c C hret hlk hin
  refine ol_iconst (v := 0) C dJ7_fill_53178_0 (by decide) ?_
  refine ol_istore_n C dJ7_fill_53178_1 rfl (by decide) ?_
  refine ol_aload_n C dJ7_fill_53178_2 rfl rfl (by first | exact ol_isq_r _ | exact ol_isq_q _ | exact ol_isq_n) ?_
  refine ol_alen (v := nI n) C hi.1 hi.2 rfl rfl dJ7_fill_53178_3 ?_
  refine ol_istore_n C dJ7_fill_53178_4 rfl (by decide) ?_
  refine lp_fill C hi hn (fun I1 h1 h2 h3 => ?_) n 0 I (by omega) (fun _ _ => rfl) (fun j hj => absurd hj (by omega)) (fun _ _ => rfl)
  have e : I1 = va_up I a (ol_fi (I a) n v) := by
    funext b
    by_cases hb : b = a
    · subst hb
      rw [va_up_self]
      funext j
      by_cases hj : j < n
      · rw [ol_fi_lt hj, h2 j hj]
      · rw [ol_fi_ge hj, h3 j (by omega)]
    · rw [va_up_ne _ _ hb, h1 b hb]
  subst e
  exact ol_vret C hret hlk (by decide) (by decide) dJ7_fill_53178_20 ⟨rfl, rfl, rfl, rfl⟩

def ol_bq (ro : Nat → Nat) (q : Option Nat) : Prop := ∃ b, q = some b ∧ ro b = 4

set_option maxRecDepth 100000 in
set_option maxHeartbeats 4000000 in
theorem lp_cut {p : Program} {l : Launch} {e : Env} {R : Room} {s : State} {m : MethodId} {args : Array Value} {below : List Frame} {meth : Method} {c : Code} {D : va_G} {cA : Nat → ClassId} {A : Nat → Prop} {Q : State → Prop} {ro : Nat → Nat} {F : Nat → Nat → Option Nat} {cells slots : Nat} (C : ol_Cx p s m args c cX10_countUpToBridge 4 yX10_countUpToBridge.cls D cA A) {I : Nat → Nat → Int32} {pa ka kn : Nat} (hp : ol_is ro pa (.inr (2, 6))) (hth : ∀ i, i < 6 → ∀ b, F pa i = some b → ol_th ro b) (hk : ka + kn ≤ 6) (ex : (∀ i, i < kn → ¬ ol_bq ro (F pa (ka + i))) → ol_W p l e R s m args below meth c D cA A Q 4 ro I F cells slots 26 [some (.ref pa), some (.int (nI ka)), some (.int (nI kn)), some (.int (nI kn))] []) (ex2 : ∀ k, k < kn → (∀ i, i < k → ¬ ol_bq ro (F pa (ka + i))) → ol_bq ro (F pa (ka + k)) → ol_W p l e R s m args below meth c D cA A Q 4 ro I F cells slots 18 [some (.ref pa), some (.int (nI ka)), some (.int (nI kn)), some (.int (nI k))] []) : ∀ (d k : Nat), k + d = kn → (∀ i, i < k → ¬ ol_bq ro (F pa (ka + i))) → ol_W p l e R s m args below meth c D cA A Q 4 ro I F cells slots 2 [some (.ref pa), some (.int (nI ka)), some (.int (nI kn)), some (.int (nI k))] [] := by
  intro d
  induction d with
  | zero =>
    intro k hk h1
    have hk6 : k = kn := by omega
    subst hk6
    refine ol_iload_n C dX10_countUpToBridge_2 rfl rfl ?_
    refine ol_iload_n C dX10_countUpToBridge_3 rfl rfl ?_
    refine ol_icmp_ge (tgt := 26) C dX10_countUpToBridge_4 (by decide) (fun c_4 => ?_) (fun c_4 => absurd (Int32.le_refl (nI k)) c_4)
    exact ex h1
  | succ d ih =>
    intro k hk h1
    have hk6 : k < kn := by omega
    refine ol_iload_n C dX10_countUpToBridge_2 rfl rfl ?_
    refine ol_iload_n C dX10_countUpToBridge_3 rfl rfl ?_
    refine ol_icmp_ge (tgt := 26) C dX10_countUpToBridge_4 (by decide) (fun c_4 => absurd c_4 (nI_ge hk6 (by omega))) (fun c_4 => ?_)
    refine ol_aload_n C dX10_countUpToBridge_7 rfl rfl (by first | exact ol_isq_r _ | exact ol_isq_q _ | exact ol_isq_n) ?_
    refine ol_iload_n C dX10_countUpToBridge_8 rfl rfl ?_
    refine ol_iload_n C dX10_countUpToBridge_9 rfl rfl ?_
    refine ol_iadd C dX10_countUpToBridge_10 ?_
    refine ol_lT (ka + k) C hp (nI_add _ _) (by omega) (by decide) dX10_countUpToBridge_11 ?_
    refine ol_inq_Bridge C (hth (ka + k) (by omega)) wd_185 dX10_countUpToBridge_12 ?_
    refine ol_if_eq (tgt := 20) C dX10_countUpToBridge_15 (by decide) (fun c_15 => ?_) (fun c_15 => ?_)
    · refine ol_iincN C dX10_countUpToBridge_20 rfl (by decide) ?_
      refine ol_goto (tgt := 2) C dX10_countUpToBridge_23 (by decide) ?_
      refine ih (k + 1) (by omega) (fun i hi => ?_)
      by_cases e : i = k
      · subst e
        exact ol_p_0.mp c_15
      · exact h1 i (by omega)
    · exact ex2 k hk6 h1 (ol_p_n.mp c_15)

/-- m of the kn places from ka on lie ahead of the first bridge -/
def ol_cu (ro : Nat → Nat) (f : Nat → Option Nat) (ka kn m : Nat) : Prop := m ≤ kn ∧ (∀ i, i < m → ¬ ol_bq ro (f (ka + i))) ∧ (m < kn → ol_bq ro (f (ka + m)))

set_option maxRecDepth 100000 in
set_option maxHeartbeats 4000000 in
theorem m_cut (l : Launch) (D : va_G) (cA : Nat → ClassId) {ro : Nat → Nat} {I : Nat → Nat → Int32} {F : Nat → Nat → Option Nat} {pa ka kn : Nat} (hp : ol_is ro pa (.inr (2, 6))) (hth : ∀ i, i < 6 → ∀ b, F pa i = some b → ol_th ro b) (hk : ka + kn ≤ 6) : ol_M l D cA yX10_countUpToBridge cX10_countUpToBridge 4 (some FieldType.int) (ol_r 0 0 0) [.ref pa, .int (nI ka), .int (nI kn)] ro I F (fun v ro' I' F' => ro' = ro ∧ I' = I ∧ F' = F ∧ ∃ m, ol_cu ro (F pa) ka kn m ∧ v = some (.int (nI m))) := by
  refine ol_M.of (by decide +kernel) (Nat.le_of_ble_eq_true rfl) (by simp [Value.category, ol_rfc]) ?_
  intro p e s m args below meth c C hret hlk hin
  refine ol_iconst (v := 0) C dX10_countUpToBridge_0 (by decide) ?_
  refine ol_istore_n C dX10_countUpToBridge_1 rfl (by decide) ?_
  refine lp_cut C hp hth hk (fun h1 => ?_) (fun k hk2 h1 h2 => ?_) kn 0 (by omega) (fun i hi => absurd hi (by omega))
  · refine ol_iload_n C dX10_countUpToBridge_26 rfl rfl ?_
    exact ol_iret C hret hlk rfl (by decide) (by decide) dX10_countUpToBridge_27 ⟨rfl, rfl, rfl, kn, ⟨Nat.le_refl _, h1, fun q => absurd q (Nat.lt_irrefl _)⟩, rfl⟩
  · refine ol_iload_n C dX10_countUpToBridge_18 rfl rfl ?_
    exact ol_iret C hret hlk rfl (by decide) (by decide) dX10_countUpToBridge_19 ⟨rfl, rfl, rfl, k, ⟨by omega, h1, fun _ => h2⟩, rfl⟩

set_option maxRecDepth 100000 in
set_option maxHeartbeats 4000000 in
theorem x_linksCause5 (l : Launch) (D : va_G) (cA : Nat → ClassId) {ro : Nat → Nat} {I : Nat → Nat → Int32} {F : Nat → Nat → Option Nat} {a pa : Nat} (ht : ol_th ro a) (hF : F a 1 = some pa) (hp : ol_is ro pa (.inr (2, 6))) (hth : ∀ i, i < 6 → ∀ b, F pa i = some b → ol_th ro b) : ol_M l D cA yX5_linksCause cX5_linksCause 1 (some FieldType.int) (ol_r 1 0 0) [.ref a] ro I F (ol_ei (ol_if (∃ i, i < 6 ∧ ol_bq ro (F pa i)) 3 0) ro I F) := by
  refine ol_M.of (by decide +kernel) (Nat.le_of_ble_eq_true rfl) (by simp [Value.category, ol_rfc]) ?_
  intro p e s m args below meth c C hret hlk hin
  refine ol_aload_n C dX5_linksCause_0 rfl rfl (by first | exact ol_isq_r _ | exact ol_isq_q _ | exact ol_isq_n) ?_
  refine ol_tgR C (by assumption) ol_tf1 wd_139 (.inr wd_140) dX5_linksCause_1 ?_
  refine ol_rf (by assumption) ?_
  refine ol_iconst (v := 0) C dX5_linksCause_4 (by decide) ?_
  refine ol_bipush (v := 6) C dX5_linksCause_5 (by decide) ?_
  refine ol_callSN (host := "ObjectLoads") C (m_cut l D cA (ka := 0) (kn := 6) hp hth (by omega)) wd_318 wd_1 (by decide) wd_317 mh_X10_countUpToBridge (by decide) rfl (by first | exact Nat.le_of_ble_eq_true rfl | simp [ol_rfc, Value.category]) dX5_linksCause_7 (fun v_7 ro_7 I_7 F_7 hh_7 => ?_)
  obtain ⟨rfl, rfl, rfl, q, ⟨q1, q2, q3⟩, rfl⟩ := hh_7
  refine ol_st (st' := .int _ :: _) rfl ?_
  refine ol_bipush (v := 6) C dX5_linksCause_10 (by decide) ?_
  refine ol_icmp_ge (tgt := 19) C dX5_linksCause_12 (by decide) (fun c_12 => ?_) (fun c_12 => ?_)
  · refine ol_iconst (v := 0) C dX5_linksCause_19 (by decide) ?_
    exact ol_iret C hret hlk rfl (by decide) (by decide) dX5_linksCause_20 ⟨by rw [ol_if_f (fun ⟨i, h1, h2⟩ => q2 i (by have := (nI_leI (a := 6) (by omega) (by omega)).mp c_12; omega) (by rw [Nat.zero_add]; exact h2))], rfl, rfl, rfl⟩
  · refine ol_iconst (v := 3) C dX5_linksCause_15 (by decide) ?_
    refine ol_goto (tgt := 20) C dX5_linksCause_16 (by decide) ?_
    exact ol_iret C hret hlk rfl (by decide) (by decide) dX5_linksCause_20 ⟨by rw [ol_if_t (have hq : q < 6 := Nat.lt_of_not_le (fun z => c_12 ((nI_leI (a := 6) (by omega) (by omega)).mpr z)); ⟨q, hq, by have := q3 hq; rw [Nat.zero_add] at this; exact this⟩)], rfl, rfl, rfl⟩
end
