set_option maxRecDepth 100000 in
set_option maxHeartbeats 4000000 in
theorem m_isThing (l : Launch) (D : va_G) (cA : Nat → ClassId) {ro : Nat → Nat} {I : Nat → Nat → Int32} {F : Nat → Nat → Option Nat} {x : Nat} (hx : ol_is ro x (.inl 0)) (n : Int32) : ol_M l D cA yX10_isThing cX10_isThing 2 (some FieldType.boolean) (ol_r 0 0 0) [.ref x, .int n] ro I F (ol_ei (ol_p (¬ n < 0 ∧ ¬ I x 1 ≤ n)) ro I F) := by
  refine ol_M.of (by decide +kernel) (Nat.le_of_ble_eq_true rfl) (by simp [Value.category, ol_rfc]) ?_
  intro p e s m args below meth c C hret hlk hin
  refine ol_iload_n C dX10_isThing_0 rfl rfl ?_
  refine ol_if_lt (tgt := 16) C dX10_isThing_1 (by decide) (fun c_1 => ?_) (fun c_1 => ?_)
  · refine ol_iconst (v := 0) C dX10_isThing_16 (by decide) ?_
    exact ol_iret C hret hlk rfl (by decide) (by decide) dX10_isThing_17 ⟨by first | exact ol_pt ⟨c_1, c_9⟩ | exact ol_pf (fun q => q.1 c_1) | exact ol_pf (fun q => q.2 c_9), rfl, rfl, rfl⟩
  · refine ol_iload_n C dX10_isThing_4 rfl rfl ?_
    refine ol_aload_n C dX10_isThing_5 rfl rfl (by first | exact ol_isq_r _ | exact ol_isq_q _ | exact ol_isq_n) ?_
    refine ol_gI (k := 1) C (by assumption) rfl rfl wd_87 (.inl rfl) dX10_isThing_6 ?_
    refine ol_icmp_ge (tgt := 16) C dX10_isThing_9 (by decide) (fun c_9 => ?_) (fun c_9 => ?_)
    · refine ol_iconst (v := 0) C dX10_isThing_16 (by decide) ?_
      exact ol_iret C hret hlk rfl (by decide) (by decide) dX10_isThing_17 ⟨by first | exact ol_pt ⟨c_1, c_9⟩ | exact ol_pf (fun q => q.1 c_1) | exact ol_pf (fun q => q.2 c_9), rfl, rfl, rfl⟩
    · refine ol_iconst (v := 1) C dX10_isThing_12 (by decide) ?_
      refine ol_goto (tgt := 17) C dX10_isThing_13 (by decide) ?_
      exact ol_iret C hret hlk rfl (by decide) (by decide) dX10_isThing_17 ⟨by first | exact ol_pt ⟨c_1, c_9⟩ | exact ol_pf (fun q => q.1 c_1) | exact ol_pf (fun q => q.2 c_9), rfl, rfl, rfl⟩

set_option maxRecDepth 100000 in
set_option maxHeartbeats 4000000 in
theorem m_isPlace (l : Launch) (D : va_G) (cA : Nat → ClassId) {ro : Nat → Nat} {I : Nat → Nat → Int32} {F : Nat → Nat → Option Nat} (n : Int32) : ol_M l D cA yX10_isPlace cX10_isPlace 1 (some FieldType.boolean) (ol_r 0 0 0) [.int n] ro I F (ol_ei (ol_p (¬ n < 0 ∧ ¬ 6 ≤ n)) ro I F) := by
  refine ol_M.of (by decide +kernel) (Nat.le_of_ble_eq_true rfl) (by simp [Value.category, ol_rfc]) ?_
  intro p e s m args below meth c C hret hlk hin
  refine ol_iload_n C dX10_isPlace_0 rfl rfl ?_
  refine ol_if_lt (tgt := 14) C dX10_isPlace_1 (by decide) (fun c_1 => ?_) (fun c_1 => ?_)
  · refine ol_iconst (v := 0) C dX10_isPlace_14 (by decide) ?_
    exact ol_iret C hret hlk rfl (by decide) (by decide) dX10_isPlace_15 ⟨by first | exact ol_pt ⟨c_1, c_7⟩ | exact ol_pf (fun q => q.1 c_1) | exact ol_pf (fun q => q.2 c_7), rfl, rfl, rfl⟩
  · refine ol_iload_n C dX10_isPlace_4 rfl rfl ?_
    refine ol_bipush (v := 6) C dX10_isPlace_5 (by decide) ?_
    refine ol_icmp_ge (tgt := 14) C dX10_isPlace_7 (by decide) (fun c_7 => ?_) (fun c_7 => ?_)
    · refine ol_iconst (v := 0) C dX10_isPlace_14 (by decide) ?_
      exact ol_iret C hret hlk rfl (by decide) (by decide) dX10_isPlace_15 ⟨by first | exact ol_pt ⟨c_1, c_7⟩ | exact ol_pf (fun q => q.1 c_1) | exact ol_pf (fun q => q.2 c_7), rfl, rfl, rfl⟩
    · refine ol_iconst (v := 1) C dX10_isPlace_10 (by decide) ?_
      refine ol_goto (tgt := 15) C dX10_isPlace_11 (by decide) ?_
      exact ol_iret C hret hlk rfl (by decide) (by decide) dX10_isPlace_15 ⟨by first | exact ol_pt ⟨c_1, c_7⟩ | exact ol_pf (fun q => q.1 c_1) | exact ol_pf (fun q => q.2 c_7), rfl, rfl, rfl⟩

set_option maxRecDepth 100000 in
set_option maxHeartbeats 4000000 in
theorem m_asNumber (l : Launch) (D : va_G) (cA : Nat → ClassId) {ro : Nat → Nat} {I : Nat → Nat → Int32} {F : Nat → Nat → Option Nat} (n : Int32) : ol_M l D cA yX10_asNumber cX10_asNumber 1 (some FieldType.int) (ol_r 0 0 0) [.int n] ro I F (ol_ei (ol_p (¬ n = 0)) ro I F) := by
  refine ol_M.of (by decide +kernel) (Nat.le_of_ble_eq_true rfl) (by simp [Value.category, ol_rfc]) ?_
  intro p e s m args below meth c C hret hlk hin
  refine ol_iload_n C dX10_asNumber_0 rfl rfl ?_
  refine ol_if_eq (tgt := 8) C dX10_asNumber_1 (by decide) (fun c_1 => ?_) (fun c_1 => ?_)
  · refine ol_iconst (v := 0) C dX10_asNumber_8 (by decide) ?_
    exact ol_iret C hret hlk rfl (by decide) (by decide) dX10_asNumber_9 ⟨by first | exact ol_pt c_1 | exact ol_pf (fun q => q c_1), rfl, rfl, rfl⟩
  · refine ol_iconst (v := 1) C dX10_asNumber_4 (by decide) ?_
    refine ol_goto (tgt := 9) C dX10_asNumber_5 (by decide) ?_
    exact ol_iret C hret hlk rfl (by decide) (by decide) dX10_asNumber_9 ⟨by first | exact ol_pt c_1 | exact ol_pf (fun q => q c_1), rfl, rfl, rfl⟩

set_option maxRecDepth 100000 in
set_option maxHeartbeats 4000000 in
theorem m_toldOrFailed (l : Launch) (D : va_G) (cA : Nat → ClassId) {ro : Nat → Nat} {I : Nat → Nat → Int32} {F : Nat → Nat → Option Nat} (a b : Int32) : ol_M l D cA yX10_toldOrFailed cX10_toldOrFailed 2 (some FieldType.int) (ol_r 0 0 0) [.int a, .int b] ro I F (ol_ei (ol_if (b = 0) a ((-1000010) - b)) ro I F) := by
  refine ol_M.of (by decide +kernel) (Nat.le_of_ble_eq_true rfl) (by simp [Value.category, ol_rfc]) ?_
  intro p e s m args below meth c C hret hlk hin
  refine ol_iload_n C dX10_toldOrFailed_0 rfl rfl ?_
  refine ol_if_ne (tgt := 8) C dX10_toldOrFailed_1 (by decide) (fun c_1 => ?_) (fun c_1 => ?_)
  · refine ol_ldc (v := (-1000010)) C wd_494 dX10_toldOrFailed_8 ?_
    refine ol_iload_n C dX10_toldOrFailed_10 rfl rfl ?_
    refine ol_isub C dX10_toldOrFailed_11 ?_
    exact ol_iret C hret hlk rfl (by decide) (by decide) dX10_toldOrFailed_12 ⟨by first | (have q : b = 0 := c_1; exact ol_it q) | (have q : ¬ b = 0 := c_1; exact ol_iff q), rfl, rfl, rfl⟩
  · refine ol_iload_n C dX10_toldOrFailed_4 rfl rfl ?_
    refine ol_goto (tgt := 12) C dX10_toldOrFailed_5 (by decide) ?_
    exact ol_iret C hret hlk rfl (by decide) (by decide) dX10_toldOrFailed_12 ⟨by first | (have q : b = 0 := c_1; exact ol_it q) | (have q : ¬ b = 0 := c_1; exact ol_iff q), rfl, rfl, rfl⟩

set_option maxRecDepth 100000 in
set_option maxHeartbeats 4000000 in
theorem m_hasNode (l : Launch) (D : va_G) (cA : Nat → ClassId) {ro : Nat → Nat} {I : Nat → Nat → Int32} {F : Nat → Nat → Option Nat} {x : Nat} (hx : ol_is ro x (.inl 8)) (n : Int32) : ol_M l D cA yX4_hasNode cX4_hasNode 2 (some FieldType.boolean) (ol_r 0 0 0) [.ref x, .int n] ro I F (ol_ei (ol_p (¬ n < 0 ∧ ¬ I x 9 ≤ n)) ro I F) := by
  refine ol_M.of (by decide +kernel) (Nat.le_of_ble_eq_true rfl) (by simp [Value.category, ol_rfc]) ?_
  intro p e s m args below meth c C hret hlk hin
  refine ol_iload_n C dX4_hasNode_0 rfl rfl ?_
  refine ol_if_lt (tgt := 16) C dX4_hasNode_1 (by decide) (fun c_1 => ?_) (fun c_1 => ?_)
  · refine ol_iconst (v := 0) C dX4_hasNode_16 (by decide) ?_
    exact ol_iret C hret hlk rfl (by decide) (by decide) dX4_hasNode_17 ⟨by first | exact ol_pt ⟨c_1, c_9⟩ | exact ol_pf (fun q => q.1 c_1) | exact ol_pf (fun q => q.2 c_9), rfl, rfl, rfl⟩
  · refine ol_iload_n C dX4_hasNode_4 rfl rfl ?_
    refine ol_aload_n C dX4_hasNode_5 rfl rfl (by first | exact ol_isq_r _ | exact ol_isq_q _ | exact ol_isq_n) ?_
    refine ol_gI (k := 9) C (by assumption) rfl rfl wd_52 (.inl rfl) dX4_hasNode_6 ?_
    refine ol_icmp_ge (tgt := 16) C dX4_hasNode_9 (by decide) (fun c_9 => ?_) (fun c_9 => ?_)
    · refine ol_iconst (v := 0) C dX4_hasNode_16 (by decide) ?_
      exact ol_iret C hret hlk rfl (by decide) (by decide) dX4_hasNode_17 ⟨by first | exact ol_pt ⟨c_1, c_9⟩ | exact ol_pf (fun q => q.1 c_1) | exact ol_pf (fun q => q.2 c_9), rfl, rfl, rfl⟩
    · refine ol_iconst (v := 1) C dX4_hasNode_12 (by decide) ?_
      refine ol_goto (tgt := 17) C dX4_hasNode_13 (by decide) ?_
      exact ol_iret C hret hlk rfl (by decide) (by decide) dX4_hasNode_17 ⟨by first | exact ol_pt ⟨c_1, c_9⟩ | exact ol_pf (fun q => q.1 c_1) | exact ol_pf (fun q => q.2 c_9), rfl, rfl, rfl⟩

set_option maxRecDepth 100000 in
set_option maxHeartbeats 4000000 in
theorem m_endLoad (l : Launch) (D : va_G) (cA : Nat → ClassId) {ro : Nat → Nat} {I : Nat → Nat → Int32} {F : Nat → Nat → Option Nat} {x : Nat} (hx : ol_is ro x (.inl 0)) (a b d : Int32) : ol_M l D cA yX10_endLoad cX10_endLoad 4 none (ol_r 0 0 0) [.ref x, .int a, .int b, .int d] ro I F (ol_ev ro (ol_u2 (ol_u2 (ol_u2 I x 4 a) x 5 b) x 6 d) F) := by
  refine ol_M.of (by decide +kernel) (Nat.le_of_ble_eq_true rfl) (by simp [Value.category, ol_rfc]) ?_
  intro p e s m args below meth c C hret hlk hin
  refine ol_aload_n C dX10_endLoad_0 rfl rfl (by first | exact ol_isq_r _ | exact ol_isq_q _ | exact ol_isq_n) ?_
  refine ol_iload_n C dX10_endLoad_1 rfl rfl ?_
  refine ol_pI (k := 4) C (by assumption) rfl rfl wd_90 (.inl rfl) rfl rfl dX10_endLoad_2 ?_
  refine ol_aload_n C dX10_endLoad_5 rfl rfl (by first | exact ol_isq_r _ | exact ol_isq_q _ | exact ol_isq_n) ?_
  refine ol_iload_n C dX10_endLoad_6 rfl rfl ?_
  refine ol_pI (k := 5) C (by assumption) rfl rfl wd_91 (.inl rfl) rfl rfl dX10_endLoad_7 ?_
  refine ol_aload_n C dX10_endLoad_10 rfl rfl (by first | exact ol_isq_r _ | exact ol_isq_q _ | exact ol_isq_n) ?_
  refine ol_iload_n C dX10_endLoad_11 rfl rfl ?_
  refine ol_pI (k := 6) C (by assumption) rfl rfl wd_92 (.inl rfl) rfl rfl dX10_endLoad_12 ?_
  exact ol_vret C hret hlk (by decide) (by decide) dX10_endLoad_15 ⟨rfl, rfl, rfl, rfl⟩

set_option maxRecDepth 100000 in
set_option maxHeartbeats 4000000 in
theorem m_isThingOrNone (l : Launch) (D : va_G) (cA : Nat → ClassId) {ro : Nat → Nat} {I : Nat → Nat → Int32} {F : Nat → Nat → Option Nat} {x : Nat} (hx : ol_is ro x (.inl 0)) (n : Int32) : ol_M l D cA yX10_isThingOrNone cX10_isThingOrNone 2 (some FieldType.boolean) (ol_r 1 0 0) [.ref x, .int n] ro I F (ol_ei (ol_p (n = -1000009 ∨ (¬ n < 0 ∧ ¬ I x 1 ≤ n))) ro I F) := by
  refine ol_M.of (by decide +kernel) (Nat.le_of_ble_eq_true rfl) (by simp [Value.category, ol_rfc]) ?_
  intro p e s m args below meth c C hret hlk hin
  refine ol_iload_n C dX10_isThingOrNone_0 rfl rfl ?_
  refine ol_ldc (v := (-1000009)) C wd_85 dX10_isThingOrNone_1 ?_
  refine ol_icmp_eq (tgt := 14) C dX10_isThingOrNone_3 (by decide) (fun c_3 => ?_) (fun c_3 => ?_)
  · refine ol_iconst (v := 1) C dX10_isThingOrNone_14 (by decide) ?_
    refine ol_goto (tgt := 19) C dX10_isThingOrNone_15 (by decide) ?_
    exact ol_iret C hret hlk rfl (by decide) (by decide) dX10_isThingOrNone_19 ⟨by first | exact ol_pt (Or.inl c_3) | exact ol_pt (Or.inr (ol_p_n.mp c_11)) | exact ol_pf (fun q => q.elim c_3 (ol_p_0.mp c_11)), rfl, rfl, rfl⟩
  · refine ol_aload_n C dX10_isThingOrNone_6 rfl rfl (by first | exact ol_isq_r _ | exact ol_isq_q _ | exact ol_isq_n) ?_
    refine ol_iload_n C dX10_isThingOrNone_7 rfl rfl ?_
    refine ol_callV C (m_isThing l D cA hx n) hx.1 hx.2 rfl wd_280 wd_1 wd_277 wd_279 wq_1 mh_X10_isThing (by decide) rfl (by first | exact Nat.le_of_ble_eq_true rfl | simp [ol_rfc, Value.category]) dX10_isThingOrNone_8 (ol_xi ?_)
    refine ol_if_eq (tgt := 18) C dX10_isThingOrNone_11 (by decide) (fun c_11 => ?_) (fun c_11 => ?_)
    · refine ol_iconst (v := 0) C dX10_isThingOrNone_18 (by decide) ?_
      exact ol_iret C hret hlk rfl (by decide) (by decide) dX10_isThingOrNone_19 ⟨by first | exact ol_pt (Or.inl c_3) | exact ol_pt (Or.inr (ol_p_n.mp c_11)) | exact ol_pf (fun q => q.elim c_3 (ol_p_0.mp c_11)), rfl, rfl, rfl⟩
    · refine ol_iconst (v := 1) C dX10_isThingOrNone_14 (by decide) ?_
      refine ol_goto (tgt := 19) C dX10_isThingOrNone_15 (by decide) ?_
      exact ol_iret C hret hlk rfl (by decide) (by decide) dX10_isThingOrNone_19 ⟨by first | exact ol_pt (Or.inl c_3) | exact ol_pt (Or.inr (ol_p_n.mp c_11)) | exact ol_pf (fun q => q.elim c_3 (ol_p_0.mp c_11)), rfl, rfl, rfl⟩

set_option maxRecDepth 100000 in
set_option maxHeartbeats 4000000 in
theorem m_known (l : Launch) (D : va_G) (cA : Nat → ClassId) {ro : Nat → Nat} {I : Nat → Nat → Int32} {F : Nat → Nat → Option Nat} {x th : Nat} (hx : ol_is ro x (.inl 0)) (hF : F x 0 = some th) (hth : ol_is ro th (.inr (2, 40))) (n : Int32) {k : Nat} (hk : I x 1 = nI k) (hk40 : k ≤ 40) : ol_M l D cA yX10_known cX10_known 2 (some (FieldType.object "ObjectLoads$Thing")) (ol_r 1 0 0) [.ref x, .int n] ro I F (ol_eq (ol_if (¬ n < 0 ∧ ¬ I x 1 ≤ n) (F th n.toNatClampNeg) none) ro I F) := by
  refine ol_M.of (by decide +kernel) (Nat.le_of_ble_eq_true rfl) (by simp [Value.category, ol_rfc]) ?_
  intro p e s m args below meth c C hret hlk hin
  refine ol_aload_n C dX10_known_0 rfl rfl (by first | exact ol_isq_r _ | exact ol_isq_q _ | exact ol_isq_n) ?_
  refine ol_iload_n C dX10_known_1 rfl rfl ?_
  refine ol_callV C (m_isThing l D cA hx n) hx.1 hx.2 rfl wd_280 wd_1 wd_277 wd_279 wq_1 mh_X10_isThing (by decide) rfl (by first | exact Nat.le_of_ble_eq_true rfl | simp [ol_rfc, Value.category]) dX10_known_2 (ol_xi ?_)
  refine ol_if_eq (tgt := 17) C dX10_known_5 (by decide) (fun c_5 => ?_) (fun c_5 => ?_)
  · refine ol_null C dX10_known_17 ?_
    exact ol_aret (r := none) C rfl hret (Or.inl ⟨_, rfl⟩) hlk (by decide) (by decide) dX10_known_18 ⟨by first | (have hn2 : j < k := hj; rw [ol_if_t hn, ej, nI_clamp (by omega)]) | (have hn2 := ol_p_0.mp c_5; exact ol_ifq hn2), rfl, rfl, rfl⟩
  · have hn := ol_p_n.mp c_5
    obtain ⟨j, hj, ej⟩ := ol_ix hn hk hk40
    have hj40 : j < 40 := by omega
    refine ol_aload_n C dX10_known_8 rfl rfl (by first | exact ol_isq_r _ | exact ol_isq_q _ | exact ol_isq_n) ?_
    refine ol_gR (k := 0) C (by assumption) rfl rfl wd_86 (.inl rfl) dX10_known_9 ?_
    refine ol_rf (by assumption) ?_
    refine ol_iload_n C dX10_known_12 rfl rfl ?_
    refine ol_lT j C (by assumption) ej hj40 (by decide) dX10_known_13 ?_
    refine ol_goto (tgt := 18) C dX10_known_14 (by decide) ?_
    exact ol_aret C rfl hret (Or.inl ⟨_, rfl⟩) hlk (by decide) (by decide) dX10_known_18 ⟨by first | (have hn2 : j < k := hj; rw [ol_if_t hn, ej, nI_clamp (by omega)]) | (have hn2 := ol_p_0.mp c_5; exact ol_ifq hn2), rfl, rfl, rfl⟩

set_option maxRecDepth 100000 in
set_option maxHeartbeats 4000000 in
theorem m_isStretch (l : Launch) (D : va_G) (cA : Nat → ClassId) {ro : Nat → Nat} {I : Nat → Nat → Int32} {F : Nat → Nat → Option Nat} (a n : Int32) : ol_M l D cA yX10_isStretch cX10_isStretch 2 (some FieldType.boolean) (ol_r 0 0 0) [.int a, .int n] ro I F (ol_ei (ol_p (¬ a < 0 ∧ ¬ n < 0 ∧ ¬ 6 < n ∧ ¬ 6 - n < a)) ro I F) := by
  refine ol_M.of (by decide +kernel) (Nat.le_of_ble_eq_true rfl) (by simp [Value.category, ol_rfc]) ?_
  intro p e s m args below meth c C hret hlk hin
  refine ol_iload_n C dX10_isStretch_0 rfl rfl ?_
  refine ol_if_lt (tgt := 26) C dX10_isStretch_1 (by decide) (fun c_1 => ?_) (fun c_1 => ?_)
  · refine ol_iconst (v := 0) C dX10_isStretch_26 (by decide) ?_
    exact ol_iret C hret hlk rfl (by decide) (by decide) dX10_isStretch_27 ⟨by first | exact ol_pt ⟨c_1, c_5, c_11, c_19⟩ | exact ol_pf (fun q => q.1 c_1) | exact ol_pf (fun q => q.2.1 c_5) | exact ol_pf (fun q => q.2.2.1 c_11) | exact ol_pf (fun q => q.2.2.2 c_19), rfl, rfl, rfl⟩
  · refine ol_iload_n C dX10_isStretch_4 rfl rfl ?_
    refine ol_if_lt (tgt := 26) C dX10_isStretch_5 (by decide) (fun c_5 => ?_) (fun c_5 => ?_)
    · refine ol_iconst (v := 0) C dX10_isStretch_26 (by decide) ?_
      exact ol_iret C hret hlk rfl (by decide) (by decide) dX10_isStretch_27 ⟨by first | exact ol_pt ⟨c_1, c_5, c_11, c_19⟩ | exact ol_pf (fun q => q.1 c_1) | exact ol_pf (fun q => q.2.1 c_5) | exact ol_pf (fun q => q.2.2.1 c_11) | exact ol_pf (fun q => q.2.2.2 c_19), rfl, rfl, rfl⟩
    · refine ol_iload_n C dX10_isStretch_8 rfl rfl ?_
      refine ol_bipush (v := 6) C dX10_isStretch_9 (by decide) ?_
      refine ol_icmp_gt (tgt := 26) C dX10_isStretch_11 (by decide) (fun c_11 => ?_) (fun c_11 => ?_)
      · refine ol_iconst (v := 0) C dX10_isStretch_26 (by decide) ?_
        exact ol_iret C hret hlk rfl (by decide) (by decide) dX10_isStretch_27 ⟨by first | exact ol_pt ⟨c_1, c_5, c_11, c_19⟩ | exact ol_pf (fun q => q.1 c_1) | exact ol_pf (fun q => q.2.1 c_5) | exact ol_pf (fun q => q.2.2.1 c_11) | exact ol_pf (fun q => q.2.2.2 c_19), rfl, rfl, rfl⟩
      · refine ol_iload_n C dX10_isStretch_14 rfl rfl ?_
        refine ol_bipush (v := 6) C dX10_isStretch_15 (by decide) ?_
        refine ol_iload_n C dX10_isStretch_17 rfl rfl ?_
        refine ol_isub C dX10_isStretch_18 ?_
        refine ol_icmp_gt (tgt := 26) C dX10_isStretch_19 (by decide) (fun c_19 => ?_) (fun c_19 => ?_)
        · refine ol_iconst (v := 0) C dX10_isStretch_26 (by decide) ?_
          exact ol_iret C hret hlk rfl (by decide) (by decide) dX10_isStretch_27 ⟨by first | exact ol_pt ⟨c_1, c_5, c_11, c_19⟩ | exact ol_pf (fun q => q.1 c_1) | exact ol_pf (fun q => q.2.1 c_5) | exact ol_pf (fun q => q.2.2.1 c_11) | exact ol_pf (fun q => q.2.2.2 c_19), rfl, rfl, rfl⟩
        · refine ol_iconst (v := 1) C dX10_isStretch_22 (by decide) ?_
          refine ol_goto (tgt := 27) C dX10_isStretch_23 (by decide) ?_
          exact ol_iret C hret hlk rfl (by decide) (by decide) dX10_isStretch_27 ⟨by first | exact ol_pt ⟨c_1, c_5, c_11, c_19⟩ | exact ol_pf (fun q => q.1 c_1) | exact ol_pf (fun q => q.2.1 c_5) | exact ol_pf (fun q => q.2.2.1 c_11) | exact ol_pf (fun q => q.2.2.2 c_19), rfl, rfl, rfl⟩

set_option maxRecDepth 100000 in
set_option maxHeartbeats 4000000 in
theorem m_arcsOf (l : Launch) (D : va_G) (cA : Nat → ClassId) {ro : Nat → Nat} {I : Nat → Nat → Int32} {F : Nat → Nat → Option Nat} {x : Nat} (hx : ol_is ro x (.inl 8)) {fa : Nat} (hF : F x 3 = some fa) (hfa : ol_is ro fa (.inr (0, 41))) {n : Nat} (hn : n < 40) : ol_M l D cA yX4_arcsOf cX4_arcsOf 2 (some FieldType.int) (ol_r 0 0 0) [.ref x, .int (nI n)] ro I F (ol_ei (I fa (n + 1) - I fa n) ro I F) := by
  refine ol_M.of (by decide +kernel) (Nat.le_of_ble_eq_true rfl) (by simp [Value.category, ol_rfc]) ?_
  intro p e s m args below meth c C hret hlk hin
  refine ol_aload_n C dX4_arcsOf_0 rfl rfl (by first | exact ol_isq_r _ | exact ol_isq_q _ | exact ol_isq_n) ?_
  refine ol_gR (k := 3) C (by assumption) rfl rfl wd_42 (.inl rfl) dX4_arcsOf_1 ?_
  refine ol_rf (by assumption) ?_
  refine ol_iload_n C dX4_arcsOf_4 rfl rfl ?_
  refine ol_iconst (v := 1) C dX4_arcsOf_5 (by decide) ?_
  refine ol_iadd C dX4_arcsOf_6 ?_
  refine ol_lI (n + 1) C (by assumption) (nI_1 n) (by omega) (by decide) dX4_arcsOf_7 ?_
  refine ol_aload_n C dX4_arcsOf_8 rfl rfl (by first | exact ol_isq_r _ | exact ol_isq_q _ | exact ol_isq_n) ?_
  refine ol_gR (k := 3) C (by assumption) rfl rfl wd_42 (.inl rfl) dX4_arcsOf_9 ?_
  refine ol_rf (by assumption) ?_
  refine ol_iload_n C dX4_arcsOf_12 rfl rfl ?_
  refine ol_lI n C (by assumption) rfl (by omega) (by decide) dX4_arcsOf_13 ?_
  refine ol_isub C dX4_arcsOf_14 ?_
  exact ol_iret C hret hlk rfl (by decide) (by decide) dX4_arcsOf_15 ⟨rfl, rfl, rfl, rfl⟩

set_option maxRecDepth 100000 in
set_option maxHeartbeats 4000000 in
theorem m_endArcsOf (l : Launch) (D : va_G) (cA : Nat → ClassId) {ro : Nat → Nat} {I : Nat → Nat → Int32} {F : Nat → Nat → Option Nat} {x : Nat} (hx : ol_is ro x (.inl 8)) {fa : Nat} (hF : F x 3 = some fa) (hfa : ol_is ro fa (.inr (0, 41))) {n : Nat} (hn : n < 40) : ol_M l D cA yX4_endArcsOf cX4_endArcsOf 2 none (ol_r 0 0 0) [.ref x, .int (nI n)] ro I F (ol_ev ro (ol_u2 I fa (n + 1) (I x 10)) F) := by
  refine ol_M.of (by decide +kernel) (Nat.le_of_ble_eq_true rfl) (by simp [Value.category, ol_rfc]) ?_
  intro p e s m args below meth c C hret hlk hin
  refine ol_aload_n C dX4_endArcsOf_0 rfl rfl (by first | exact ol_isq_r _ | exact ol_isq_q _ | exact ol_isq_n) ?_
  refine ol_gR (k := 3) C (by assumption) rfl rfl wd_42 (.inl rfl) dX4_endArcsOf_1 ?_
  refine ol_rf (by assumption) ?_
  refine ol_iload_n C dX4_endArcsOf_4 rfl rfl ?_
  refine ol_iconst (v := 1) C dX4_endArcsOf_5 (by decide) ?_
  refine ol_iadd C dX4_endArcsOf_6 ?_
  refine ol_aload_n C dX4_endArcsOf_7 rfl rfl (by first | exact ol_isq_r _ | exact ol_isq_q _ | exact ol_isq_n) ?_
  refine ol_gI (k := 10) C (by assumption) rfl rfl wd_54 (.inl rfl) dX4_endArcsOf_8 ?_
  refine ol_sI (n + 1) C (by assumption) (nI_1 n) (by omega) (by decide) dX4_endArcsOf_11 ?_
  exact ol_vret C hret hlk (by decide) (by decide) dX4_endArcsOf_12 ⟨rfl, rfl, rfl, rfl⟩
