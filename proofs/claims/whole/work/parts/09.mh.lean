theorem mh_X0_init : ol_mh yX0_init 3 := by decide +kernel
theorem mh_X0_linkCount : ol_mh yX0_linkCount 0 := by decide +kernel
theorem mh_X0_otherEnd : ol_mh yX0_otherEnd 1 := by decide +kernel
theorem mh_X1_init : ol_mh yX1_init 3 := by decide +kernel
theorem mh_X1_valueCause : ol_mh yX1_valueCause 0 := by decide +kernel
theorem mh_X1_toldValue : ol_mh yX1_toldValue 0 := by decide +kernel
theorem mh_X2_init : ol_mh yX2_init 3 := by decide +kernel
theorem mh_X2_toldValue : ol_mh yX2_toldValue 0 := by decide +kernel
theorem mhs_X2_toldValue : yX2_toldValue.name ≠ "<init>" ∧ (parseMethodDescriptor yX2_toldValue.desc).map (fun d => d.parameters.length) = some 0 := by decide +kernel
theorem mh_X2_linkCount : ol_mh yX2_linkCount 0 := by decide +kernel
theorem mh_X2_link : ol_mh yX2_link 1 := by decide +kernel
theorem mhs_X2_link : yX2_link.name ≠ "<init>" ∧ (parseMethodDescriptor yX2_link.desc).map (fun d => d.parameters.length) = some 1 := by decide +kernel
theorem mh_X3_init : ol_mh yX3_init 3 := by decide +kernel
theorem mh_X3_keyCause : ol_mh yX3_keyCause 0 := by decide +kernel
theorem mh_X4_init : ol_mh yX4_init 0 := by decide +kernel
theorem mh_X4_makeEmpty : ol_mh yX4_makeEmpty 0 := by decide +kernel
theorem mh_X4_hasNode : ol_mh yX4_hasNode 1 := by decide +kernel
theorem mh_X4_arcsOf : ol_mh yX4_arcsOf 1 := by decide +kernel
theorem mh_X4_findNode : ol_mh yX4_findNode 1 := by decide +kernel
theorem mh_X4_addArc : ol_mh yX4_addArc 3 := by decide +kernel
theorem mh_X4_endArcsOf : ol_mh yX4_endArcsOf 1 := by decide +kernel
theorem mh_X4_shortestWay : ol_mh yX4_shortestWay 2 := by decide +kernel
theorem mh_X5_init : ol_mh yX5_init 3 := by decide +kernel
theorem mh_X5_toldValue : ol_mh yX5_toldValue 0 := by decide +kernel
theorem mh_X5_linksCause : ol_mh yX5_linksCause 0 := by decide +kernel
theorem mh_X6_init : ol_mh yX6_init 3 := by decide +kernel
theorem mh_X7_init : ol_mh yX7_init 3 := by decide +kernel
theorem mh_X7_linksCause : ol_mh yX7_linksCause 0 := by decide +kernel
theorem mh_X7_linkCount : ol_mh yX7_linkCount 0 := by decide +kernel
theorem mh_X7_link : ol_mh yX7_link 1 := by decide +kernel
theorem mh_X8_init : ol_mh yX8_init 3 := by decide +kernel
theorem mh_X8_toldValue : ol_mh yX8_toldValue 0 := by decide +kernel
theorem mh_X8_linksCause : ol_mh yX8_linksCause 0 := by decide +kernel
theorem mh_X8_linkCount : ol_mh yX8_linkCount 0 := by decide +kernel
theorem mh_X8_link : ol_mh yX8_link 1 := by decide +kernel
theorem mh_X9_init : ol_mh yX9_init 3 := by decide +kernel
theorem mh_X9_keyCause : ol_mh yX9_keyCause 0 := by decide +kernel
theorem mh_X9_toldKey : ol_mh yX9_toldKey 0 := by decide +kernel
theorem mh_X9_valueCause : ol_mh yX9_valueCause 0 := by decide +kernel
theorem mh_X9_toldValue : ol_mh yX9_toldValue 0 := by decide +kernel
theorem mh_X9_linksCause : ol_mh yX9_linksCause 0 := by decide +kernel
theorem mh_X10_init : ol_mh yX10_init 0 := by decide +kernel
theorem mh_X10_thing : ol_mh yX10_thing 3 := by decide +kernel
theorem mh_X10_value : ol_mh yX10_value 2 := by decide +kernel
theorem mh_X10_key : ol_mh yX10_key 2 := by decide +kernel
theorem mh_X10_next : ol_mh yX10_next 2 := by decide +kernel
theorem mh_X10_place : ol_mh yX10_place 3 := by decide +kernel
theorem mh_X10_hold : ol_mh yX10_hold 2 := by decide +kernel
theorem mh_X10_copy : ol_mh yX10_copy 5 := by decide +kernel
theorem mh_X10_load : ol_mh yX10_load 2 := by decide +kernel
theorem mh_X10_refused : ol_mh yX10_refused 1 := by decide +kernel
theorem mh_X10_node : ol_mh yX10_node 1 := by decide +kernel
theorem mh_X10_of : ol_mh yX10_of 1 := by decide +kernel
theorem mh_X10_column : ol_mh yX10_column 1 := by decide +kernel
theorem mh_X10_arcs : ol_mh yX10_arcs 1 := by decide +kernel
theorem mh_X10_arc : ol_mh yX10_arc 3 := by decide +kernel
theorem mh_X10_way : ol_mh yX10_way 2 := by decide +kernel
theorem mh_X10_holes : ol_mh yX10_holes 0 := by decide +kernel
theorem mh_X10_asked : ol_mh yX10_asked 1 := by decide +kernel
theorem mh_X10_tells : ol_mh yX10_tells 2 := by decide +kernel
theorem mh_X10_is : ol_mh yX10_is 2 := by decide +kernel
theorem mh_X10_count : ol_mh yX10_count 1 := by decide +kernel
theorem mh_X10_clear : ol_mh yX10_clear 0 := by decide +kernel
theorem mh_X10_newThing : ol_mh yX10_newThing 4 := by decide +kernel
theorem mh_X10_isThing : ol_mh yX10_isThing 1 := by decide +kernel
theorem mh_X10_isThingOrNone : ol_mh yX10_isThingOrNone 1 := by decide +kernel
theorem mh_X10_known : ol_mh yX10_known 1 := by decide +kernel
theorem mh_X10_isPlace : ol_mh yX10_isPlace 1 := by decide +kernel
theorem mh_X10_isStretch : ol_mh yX10_isStretch 2 := by decide +kernel
theorem mh_X10_asNumber : ol_mh yX10_asNumber 1 := by decide +kernel
theorem mh_X10_toldOrFailed : ol_mh yX10_toldOrFailed 2 := by decide +kernel
theorem mh_X10_countUpToBridge : ol_mh yX10_countUpToBridge 3 := by decide +kernel
theorem mh_X10_copyStretch : ol_mh yX10_copyStretch 5 := by decide +kernel
theorem mh_X10_endLoad : ol_mh yX10_endLoad 3 := by decide +kernel
theorem mh_X10_failed : ol_mh yX10_failed 2 := by decide +kernel
theorem mh_X10_build : ol_mh yX10_build 2 := by decide +kernel
theorem mh_X10_askKey : ol_mh yX10_askKey 2 := by decide +kernel
theorem mh_X10_askValue : ol_mh yX10_askValue 2 := by decide +kernel
theorem mh_X10_askLinks : ol_mh yX10_askLinks 2 := by decide +kernel
theorem mh_X10_follow : ol_mh yX10_follow 2 := by decide +kernel
theorem mh_X10_cross : ol_mh yX10_cross 2 := by decide +kernel
theorem mh_X11_init : ol_mh yX11_init 0 := by decide +kernel
theorem mh_X11_in : ol_mh yX11_in 3 := by decide +kernel
theorem mh_X11_isThing : ol_mh yX11_isThing 1 := by decide +kernel
theorem mh_X11_thing : ol_mh yX11_thing 3 := by decide +kernel
theorem mh_X11_value : ol_mh yX11_value 2 := by decide +kernel
theorem mh_X11_key : ol_mh yX11_key 2 := by decide +kernel
theorem mh_X11_next : ol_mh yX11_next 2 := by decide +kernel
theorem mh_X11_place : ol_mh yX11_place 3 := by decide +kernel
theorem mh_X11_hold : ol_mh yX11_hold 2 := by decide +kernel
theorem mh_X11_isBridge : ol_mh yX11_isBridge 1 := by decide +kernel
theorem mh_X11_copy : ol_mh yX11_copy 5 := by decide +kernel
theorem mh_X11_tellKey : ol_mh yX11_tellKey 1 := by decide +kernel
theorem mh_X11_tellValue : ol_mh yX11_tellValue 1 := by decide +kernel
theorem mh_X11_tellLinks : ol_mh yX11_tellLinks 1 := by decide +kernel
theorem mh_X11_tellEnd : ol_mh yX11_tellEnd 2 := by decide +kernel
theorem mh_X11_refuse : ol_mh yX11_refuse 3 := by decide +kernel
theorem mh_X11_found : ol_mh yX11_found 2 := by decide +kernel
theorem mh_X11_ask : ol_mh yX11_ask 3 := by decide +kernel
theorem mh_X11_arcsOf : ol_mh yX11_arcsOf 2 := by decide +kernel
theorem mh_X11_load : ol_mh yX11_load 2 := by decide +kernel
theorem mh_X11_refused : ol_mh yX11_refused 1 := by decide +kernel
theorem mh_X11_node : ol_mh yX11_node 1 := by decide +kernel
theorem mh_X11_isNode : ol_mh yX11_isNode 1 := by decide +kernel
theorem mh_X11_of : ol_mh yX11_of 1 := by decide +kernel
theorem mh_X11_column : ol_mh yX11_column 1 := by decide +kernel
theorem mh_X11_arcs : ol_mh yX11_arcs 1 := by decide +kernel
theorem mh_X11_arc : ol_mh yX11_arc 3 := by decide +kernel
theorem mh_X11_way : ol_mh yX11_way 2 := by decide +kernel
theorem mh_X11_holes : ol_mh yX11_holes 0 := by decide +kernel
theorem mh_X11_asked : ol_mh yX11_asked 1 := by decide +kernel
theorem mh_X11_tells : ol_mh yX11_tells 2 := by decide +kernel
theorem mh_X11_is : ol_mh yX11_is 2 := by decide +kernel
theorem mh_X11_count : ol_mh yX11_count 1 := by decide +kernel
theorem mh_X11_beginAll : ol_mh yX11_beginAll 0 := by decide +kernel
theorem mh_X11_clear : ol_mh yX11_clear 0 := by decide +kernel
theorem mh_J7_fill_53178 : ol_mh yJ7_fill_53178 2 := by decide +kernel
theorem mhu_ObjectLoads_Thing_keyCause : "ObjectLoads$Thing" ≠ "java/lang/invoke/MethodHandle" ∧ "ObjectLoads$Thing" ≠ "java/lang/invoke/VarHandle" ∧ (parseMethodDescriptor "()I").map (fun d => d.parameters.length) = some 0 := by decide +kernel
theorem mhu_ObjectLoads_Thing_toldKey : "ObjectLoads$Thing" ≠ "java/lang/invoke/MethodHandle" ∧ "ObjectLoads$Thing" ≠ "java/lang/invoke/VarHandle" ∧ (parseMethodDescriptor "()I").map (fun d => d.parameters.length) = some 0 := by decide +kernel
theorem mhu_ObjectLoads_Thing_valueCause : "ObjectLoads$Thing" ≠ "java/lang/invoke/MethodHandle" ∧ "ObjectLoads$Thing" ≠ "java/lang/invoke/VarHandle" ∧ (parseMethodDescriptor "()I").map (fun d => d.parameters.length) = some 0 := by decide +kernel
theorem mhu_ObjectLoads_Thing_toldValue : "ObjectLoads$Thing" ≠ "java/lang/invoke/MethodHandle" ∧ "ObjectLoads$Thing" ≠ "java/lang/invoke/VarHandle" ∧ (parseMethodDescriptor "()I").map (fun d => d.parameters.length) = some 0 := by decide +kernel
theorem mhu_ObjectLoads_Thing_linksCause : "ObjectLoads$Thing" ≠ "java/lang/invoke/MethodHandle" ∧ "ObjectLoads$Thing" ≠ "java/lang/invoke/VarHandle" ∧ (parseMethodDescriptor "()I").map (fun d => d.parameters.length) = some 0 := by decide +kernel
theorem mhu_ObjectLoads_Thing_linkCount : "ObjectLoads$Thing" ≠ "java/lang/invoke/MethodHandle" ∧ "ObjectLoads$Thing" ≠ "java/lang/invoke/VarHandle" ∧ (parseMethodDescriptor "()I").map (fun d => d.parameters.length) = some 0 := by decide +kernel
theorem mhu_ObjectLoads_Node_keyCause : "ObjectLoads$Thing" ≠ "java/lang/invoke/MethodHandle" ∧ "ObjectLoads$Thing" ≠ "java/lang/invoke/VarHandle" ∧ (parseMethodDescriptor "()I").map (fun d => d.parameters.length) = some 0 := by decide +kernel
theorem mhu_ObjectLoads_Node_toldKey : "ObjectLoads$Thing" ≠ "java/lang/invoke/MethodHandle" ∧ "ObjectLoads$Thing" ≠ "java/lang/invoke/VarHandle" ∧ (parseMethodDescriptor "()I").map (fun d => d.parameters.length) = some 0 := by decide +kernel
theorem mhu_ObjectLoads_Node_valueCause : "ObjectLoads$Thing" ≠ "java/lang/invoke/MethodHandle" ∧ "ObjectLoads$Thing" ≠ "java/lang/invoke/VarHandle" ∧ (parseMethodDescriptor "()I").map (fun d => d.parameters.length) = some 0 := by decide +kernel
theorem mhu_ObjectLoads_Node_toldValue : "ObjectLoads$Thing" ≠ "java/lang/invoke/MethodHandle" ∧ "ObjectLoads$Thing" ≠ "java/lang/invoke/VarHandle" ∧ (parseMethodDescriptor "()I").map (fun d => d.parameters.length) = some 0 := by decide +kernel
theorem mhu_ObjectLoads_Node_linksCause : "ObjectLoads$Thing" ≠ "java/lang/invoke/MethodHandle" ∧ "ObjectLoads$Thing" ≠ "java/lang/invoke/VarHandle" ∧ (parseMethodDescriptor "()I").map (fun d => d.parameters.length) = some 0 := by decide +kernel
theorem mhu_ObjectLoads_Node_linkCount : "ObjectLoads$Thing" ≠ "java/lang/invoke/MethodHandle" ∧ "ObjectLoads$Thing" ≠ "java/lang/invoke/VarHandle" ∧ (parseMethodDescriptor "()I").map (fun d => d.parameters.length) = some 0 := by decide +kernel
theorem mhu_ObjectLoads_Node_link : "ObjectLoads$Node" ≠ "java/lang/invoke/MethodHandle" ∧ "ObjectLoads$Node" ≠ "java/lang/invoke/VarHandle" ∧ (parseMethodDescriptor "(I)LObjectLoads$Thing;").map (fun d => d.parameters.length) = some 1 := by decide +kernel
theorem mhu_ObjectLoads_Bridge_toldValue : "ObjectLoads$Thing" ≠ "java/lang/invoke/MethodHandle" ∧ "ObjectLoads$Thing" ≠ "java/lang/invoke/VarHandle" ∧ (parseMethodDescriptor "()I").map (fun d => d.parameters.length) = some 0 := by decide +kernel
