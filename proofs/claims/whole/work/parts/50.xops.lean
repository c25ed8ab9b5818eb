/-- the thing of a number, where there is one -/
noncomputable def ol_d (n : Nat) (t : Int32) : Option Nat := ol_if (ol_k n t) (some t.toNatClampNeg) none
theorem ol_d_t {n : Nat} {t : Int32} (h : ol_k n t) : ol_d n t = some t.toNatClampNeg := ol_if_t h
theorem ol_d_f {n : Nat} {t : Int32} (h : ¬ ol_k n t) : ol_d n t = none := ol_if_f h
theorem ol_d_j {n j : Nat} (h : ol_k n (nI j)) (h31 : j < 2 ^ 31) : ol_d n (nI j) = some j := by rw [ol_d_t h, nI_clamp h31]
theorem ol_d_lt {n : Nat} {t : Int32} (h40 : n ≤ 40) : ∀ u, ol_d n t = some u → u < n := by
  intro u hu
  by_cases h : ol_k n t
  · obtain ⟨j, hj, rfl, hj31⟩ := ol_k_ix h h40
    rw [ol_d_j h hj31] at hu
    have := Option.some.inj hu
    omega
  · rw [ol_d_f h] at hu
    cases hu
theorem ol_kd {ro : Nat → Nat} {I : Nat → Nat → Int32} {F : Nat → Nat → Option Nat} {ad ta pa : Nat → Nat} {n : Nat} {So : Nat → Nat} {T : Nat → Nat → Int32} {P : Nat → Nat → Option Nat} (hT : ol_XT ro I F ad ta pa n So T P) (h40 : n ≤ 40) {t : Int32} : ol_if (¬ t < 0 ∧ ¬ I (ad 1) 1 ≤ t) (F (ad 11) t.toNatClampNeg) none = (ol_d n t).map ta := by
  rw [hT.1]
  show ol_if (ol_k n t) _ _ = _
  by_cases h : ol_k n t
  · obtain ⟨j, hj, rfl, hj31⟩ := ol_k_ix h h40
    rw [ol_if_t h, ol_d_t h, nI_clamp hj31, (hT.2.1 j hj).1]
    rfl
  · rw [ol_if_f h, ol_d_f h]
    rfl
theorem ol_kd_t {n a : Nat} {t : Int32} {ta : Nat → Nat} (h : (ol_d n t).map ta = some a) : ol_k n t := Classical.byContradiction (fun q => by rw [ol_d_f q] at h; cases h)
theorem ol_kd_f {n : Nat} {t : Int32} {ta : Nat → Nat} (h : (ol_d n t).map ta = none) : ¬ ol_k n t := fun q => by rw [ol_d_t q] at h; cases h
theorem ol_pp (P : Prop) : ol_p (¬ ol_p P = 0) = ol_p P := ol_p_c ol_p_n
/-- what stays true of the graph that is loaded -/
def ol_GW (n : Nat) (b : ol_B) : Prop := b.2.1 0 0 ≤ 40 ∧ (∀ k, k < b.2.1 0 0 → b.2.1 1 k < n) ∧ (∀ t k, b.2.2.2 t = some k → k < b.2.1 0 0) ∧ b.2.1 0 1 ≤ 240 ∧ (∀ a, a < b.2.1 0 1 → b.2.1 3 a < b.2.1 0 0) ∧ b.2.1 2 0 = 0 ∧ (∀ j, j < b.2.1 0 0 → b.2.1 2 j ≤ b.2.1 2 (j + 1)) ∧ b.2.1 2 (b.2.1 0 0) = b.2.1 0 1 ∧ (b.2.1 0 0 = 0 → b.2.1 0 2 = 0)
theorem ol_GW.fa {n : Nat} {b : ol_B} (h : ol_GW n b) : ∀ d j, j + d = b.2.1 0 0 → b.2.1 2 j ≤ b.2.1 0 1 := by
  intro d
  induction d with
  | zero =>
    intro j hj
    have : j = b.2.1 0 0 := by omega
    subst this
    exact Nat.le_of_eq h.2.2.2.2.2.2.2.1
  | succ d ih =>
    intro j hj
    exact Nat.le_trans (h.2.2.2.2.2.2.1 j (by omega)) (ih (j + 1) (by omega))
theorem ol_GW.fl {n : Nat} {b : ol_B} (h : ol_GW n b) {j : Nat} (hj : j ≤ b.2.1 0 0) : b.2.1 2 j ≤ b.2.1 0 1 := h.fa (b.2.1 0 0 - j) j (by omega)
/-- what arc() answers -/
noncomputable def sp_ac (b : ol_B) (t k v : Int32) : Int32 := ol_if (ol_k (b.2.1 0 0) t ∧ ol_k (b.2.1 2 (t.toNatClampNeg + 1) - b.2.1 2 t.toNatClampNeg) k) (ol_if (v = 0) (nI (b.2.1 3 (b.2.1 2 t.toNatClampNeg + k.toNatClampNeg))) (ol_if (v = 1) (b.2.2.1 1 (b.2.1 2 t.toNatClampNeg + k.toNatClampNeg)) (ol_if (v = 2) (ol_p (¬ b.2.2.1 2 (b.2.1 2 t.toNatClampNeg + k.toNatClampNeg) = 0)) (-1000002)))) (-1000001)

set_option maxRecDepth 100000 in
set_option maxHeartbeats 4000000 in
theorem x_value (l : Launch) (D : va_G) (cA : Nat → ClassId) {ro : Nat → Nat} {I : Nat → Nat → Int32} {F : Nat → Nat → Option Nat} {ad ta pa : Nat → Nat} {n : Nat} {So : Nat → Nat} {T : Nat → Nat → Int32} {P : Nat → Nat → Option Nat} (hV : ol_V n So T P) (hL : ol_L ro F ad) (hT : ol_XT ro I F ad ta pa n So T P) (t v : Int32) : ol_M l D cA yX10_value cX10_value 5 (some FieldType.int) (ol_r 2 0 0) [.ref (ad 1), .int t, .int v] ro I F (ol_ei (ol_if (ol_k n t) (T 2 t.toNatClampNeg) (-1000001)) ro (ol_if (ol_k n t) (ol_u2 I (ta t.toNatClampNeg) 3 v) I) F) := by
  refine ol_M.of (by decide +kernel) (Nat.le_of_ble_eq_true rfl) (by simp [Value.category, ol_rfc]) ?_
  intro p e s m args below meth c C hret hlk hin
  have h40 := hV.1
  have hx1 : ol_is ro (ad 1) (.inl 0) := hL.is 1 (by decide) (by decide) rfl
  have hx11 : ol_is ro (ad 11) (.inr (2, 40)) := hL.is 11 (by decide) (by decide) rfl
  refine ol_aload_n C dX10_value_0 rfl rfl (by first | exact ol_isq_r _ | exact ol_isq_q _ | exact ol_isq_n) ?_
  refine ol_iload_n C dX10_value_1 rfl rfl ?_
  refine ol_callV C (m_known l D cA hx1 hL.2.1 hx11 t hT.1 h40) hx1.1 hx1.2 rfl wd_276 wd_1 wd_273 wd_275 wq_0 mh_X10_known (by decide) rfl (by first | exact Nat.le_of_ble_eq_true rfl | simp [ol_rfc, Value.category]) dX10_value_2 (ol_xq ?_)
  rw [show ol_if (¬ t < 0 ∧ ¬ I (ad 1) 1 ≤ t) (F (ad 11) t.toNatClampNeg) none = (ol_d n t).map ta from ol_kd hT h40]
  refine ol_astore_n C dX10_value_5 rfl (by decide) (by first | exact ol_isq_r _ | exact ol_isq_q _ | exact ol_isq_n) ?_
  refine ol_aload_n C dX10_value_6 rfl rfl (by first | exact ol_isq_r _ | exact ol_isq_q _ | exact ol_isq_n) ?_
  refine ol_ifnonnull (tgt := 13) C dX10_value_7 (by decide) (fun a_7 c_7 => ?_) (fun c_7 => ?_)
  · have hK := ol_kd_t c_7
    obtain ⟨j, hj, rfl, hj31⟩ := ol_k_ix hK h40
    rw [ol_d_j hK hj31] at c_7
    obtain rfl := Option.some.inj c_7
    have c_7b : (ol_d n (nI j)).map ta = some (ta j) := by rw [ol_d_j hK hj31]; rfl
    have hxj := (hT.2.1 j hj).2
    have htj := hxj.th (hV.2 j hj).1
    refine ol_aload_n C dX10_value_13 rfl rfl (by first | exact ol_isq_r _ | exact ol_isq_q _ | exact ol_isq_n) ?_
    refine ol_rf c_7b ?_
    refine ol_tgI C htj ol_tf3 wd_155 (.inl rfl) dX10_value_14 ?_
    refine ol_ti hxj.2.2.2.1 ?_
    refine ol_istore C dX10_value_17 (by decide) ?_
    refine ol_aload_n C dX10_value_19 rfl rfl (by first | exact ol_isq_r _ | exact ol_isq_q _ | exact ol_isq_n) ?_
    refine ol_rf c_7b ?_
    refine ol_iload_n C dX10_value_20 rfl rfl ?_
    refine ol_tpI C htj ol_tf3 wd_155 (.inl rfl) rfl rfl dX10_value_21 ?_
    refine ol_iload C dX10_value_24 rfl ?_
    exact ol_iret C hret hlk rfl (by decide) (by decide) dX10_value_26 ⟨by rw [ol_if_t hK, nI_clamp hj31], rfl, by rw [ol_if_t hK, nI_clamp hj31], rfl⟩
  · have hK := ol_kd_f c_7
    refine ol_ldc (v := (-1000001)) C wd_281 dX10_value_10 ?_
    exact ol_iret C hret hlk rfl (by decide) (by decide) dX10_value_12 ⟨by rw [ol_if_f hK], rfl, by rw [ol_if_f hK], rfl⟩

set_option maxRecDepth 100000 in
set_option maxHeartbeats 4000000 in
theorem x_key (l : Launch) (D : va_G) (cA : Nat → ClassId) {ro : Nat → Nat} {I : Nat → Nat → Int32} {F : Nat → Nat → Option Nat} {ad ta pa : Nat → Nat} {n : Nat} {So : Nat → Nat} {T : Nat → Nat → Int32} {P : Nat → Nat → Option Nat} (hV : ol_V n So T P) (hL : ol_L ro F ad) (hT : ol_XT ro I F ad ta pa n So T P) (t v : Int32) : ol_M l D cA yX10_key cX10_key 5 (some FieldType.int) (ol_r 2 0 0) [.ref (ad 1), .int t, .int v] ro I F (ol_ei (ol_if (ol_k n t) (T 1 t.toNatClampNeg) (-1000001)) ro (ol_if (ol_k n t) (ol_u2 I (ta t.toNatClampNeg) 2 v) I) F) := by
  refine ol_M.of (by decide +kernel) (Nat.le_of_ble_eq_true rfl) (by simp [Value.category, ol_rfc]) ?_
  intro p e s m args below meth c C hret hlk hin
  have h40 := hV.1
  have hx1 : ol_is ro (ad 1) (.inl 0) := hL.is 1 (by decide) (by decide) rfl
  have hx11 : ol_is ro (ad 11) (.inr (2, 40)) := hL.is 11 (by decide) (by decide) rfl
  refine ol_aload_n C dX10_key_0 rfl rfl (by first | exact ol_isq_r _ | exact ol_isq_q _ | exact ol_isq_n) ?_
  refine ol_iload_n C dX10_key_1 rfl rfl ?_
  refine ol_callV C (m_known l D cA hx1 hL.2.1 hx11 t hT.1 h40) hx1.1 hx1.2 rfl wd_276 wd_1 wd_273 wd_275 wq_0 mh_X10_known (by decide) rfl (by first | exact Nat.le_of_ble_eq_true rfl | simp [ol_rfc, Value.category]) dX10_key_2 (ol_xq ?_)
  rw [show ol_if (¬ t < 0 ∧ ¬ I (ad 1) 1 ≤ t) (F (ad 11) t.toNatClampNeg) none = (ol_d n t).map ta from ol_kd hT h40]
  refine ol_astore_n C dX10_key_5 rfl (by decide) (by first | exact ol_isq_r _ | exact ol_isq_q _ | exact ol_isq_n) ?_
  refine ol_aload_n C dX10_key_6 rfl rfl (by first | exact ol_isq_r _ | exact ol_isq_q _ | exact ol_isq_n) ?_
  refine ol_ifnonnull (tgt := 13) C dX10_key_7 (by decide) (fun a_7 c_7 => ?_) (fun c_7 => ?_)
  · have hK := ol_kd_t c_7
    obtain ⟨j, hj, rfl, hj31⟩ := ol_k_ix hK h40
    rw [ol_d_j hK hj31] at c_7
    obtain rfl := Option.some.inj c_7
    have c_7b : (ol_d n (nI j)).map ta = some (ta j) := by rw [ol_d_j hK hj31]; rfl
    have hxj := (hT.2.1 j hj).2
    have htj := hxj.th (hV.2 j hj).1
    refine ol_aload_n C dX10_key_13 rfl rfl (by first | exact ol_isq_r _ | exact ol_isq_q _ | exact ol_isq_n) ?_
    refine ol_rf c_7b ?_
    refine ol_tgI C htj ol_tf2 wd_147 (.inl rfl) dX10_key_14 ?_
    refine ol_ti hxj.2.2.1 ?_
    refine ol_istore C dX10_key_17 (by decide) ?_
    refine ol_aload_n C dX10_key_19 rfl rfl (by first | exact ol_isq_r _ | exact ol_isq_q _ | exact ol_isq_n) ?_
    refine ol_rf c_7b ?_
    refine ol_iload_n C dX10_key_20 rfl rfl ?_
    refine ol_tpI C htj ol_tf2 wd_147 (.inl rfl) rfl rfl dX10_key_21 ?_
    refine ol_iload C dX10_key_24 rfl ?_
    exact ol_iret C hret hlk rfl (by decide) (by decide) dX10_key_26 ⟨by rw [ol_if_t hK, nI_clamp hj31], rfl, by rw [ol_if_t hK, nI_clamp hj31], rfl⟩
  · have hK := ol_kd_f c_7
    refine ol_ldc (v := (-1000001)) C wd_281 dX10_key_10 ?_
    exact ol_iret C hret hlk rfl (by decide) (by decide) dX10_key_12 ⟨by rw [ol_if_f hK], rfl, by rw [ol_if_f hK], rfl⟩

set_option maxRecDepth 100000 in
set_option maxHeartbeats 4000000 in
theorem x_hold (l : Launch) (D : va_G) (cA : Nat → ClassId) {ro : Nat → Nat} {I : Nat → Nat → Int32} {F : Nat → Nat → Option Nat} {ad ta pa : Nat → Nat} {n : Nat} {So : Nat → Nat} {T : Nat → Nat → Int32} {P : Nat → Nat → Option Nat} (hV : ol_V n So T P) (hL : ol_L ro F ad) (hT : ol_XT ro I F ad ta pa n So T P) (t v : Int32) (hv : v = 0 ∨ v = 1) : ol_M l D cA yX10_hold cX10_hold 5 (some FieldType.int) (ol_r 2 0 0) [.ref (ad 1), .int t, .int v] ro I F (ol_ei (ol_if (ol_k n t) (ol_p (¬ T 3 t.toNatClampNeg = 0)) (-1000001)) ro (ol_if (ol_k n t) (ol_u2 I (ta t.toNatClampNeg) 5 v) I) F) := by
  refine ol_M.of (by decide +kernel) (Nat.le_of_ble_eq_true rfl) (by simp [Value.category, ol_rfc]) ?_
  intro p e s m args below meth c C hret hlk hin
  have h40 := hV.1
  have hx1 : ol_is ro (ad 1) (.inl 0) := hL.is 1 (by decide) (by decide) rfl
  have hx11 : ol_is ro (ad 11) (.inr (2, 40)) := hL.is 11 (by decide) (by decide) rfl
  refine ol_aload_n C dX10_hold_0 rfl rfl (by first | exact ol_isq_r _ | exact ol_isq_q _ | exact ol_isq_n) ?_
  refine ol_iload_n C dX10_hold_1 rfl rfl ?_
  refine ol_callV C (m_known l D cA hx1 hL.2.1 hx11 t hT.1 h40) hx1.1 hx1.2 rfl wd_276 wd_1 wd_273 wd_275 wq_0 mh_X10_known (by decide) rfl (by first | exact Nat.le_of_ble_eq_true rfl | simp [ol_rfc, Value.category]) dX10_hold_2 (ol_xq ?_)
  rw [show ol_if (¬ t < 0 ∧ ¬ I (ad 1) 1 ≤ t) (F (ad 11) t.toNatClampNeg) none = (ol_d n t).map ta from ol_kd hT h40]
  refine ol_astore_n C dX10_hold_5 rfl (by decide) (by first | exact ol_isq_r _ | exact ol_isq_q _ | exact ol_isq_n) ?_
  refine ol_aload_n C dX10_hold_6 rfl rfl (by first | exact ol_isq_r _ | exact ol_isq_q _ | exact ol_isq_n) ?_
  refine ol_ifnonnull (tgt := 13) C dX10_hold_7 (by decide) (fun a_7 c_7 => ?_) (fun c_7 => ?_)
  · have hK := ol_kd_t c_7
    obtain ⟨j, hj, rfl, hj31⟩ := ol_k_ix hK h40
    rw [ol_d_j hK hj31] at c_7
    obtain rfl := Option.some.inj c_7
    have c_7b : (ol_d n (nI j)).map ta = some (ta j) := by rw [ol_d_j hK hj31]; rfl
    have hxj := (hT.2.1 j hj).2
    have htj := hxj.th (hV.2 j hj).1
    refine ol_aload_n C dX10_hold_13 rfl rfl (by first | exact ol_isq_r _ | exact ol_isq_q _ | exact ol_isq_n) ?_
    refine ol_rf c_7b ?_
    refine ol_tgI C htj ol_tf5 wd_163 (.inl rfl) dX10_hold_14 ?_
    refine ol_ti hxj.2.2.2.2.1 ?_
    refine ol_istore C dX10_hold_17 (by decide) ?_
    refine ol_aload_n C dX10_hold_19 rfl rfl (by first | exact ol_isq_r _ | exact ol_isq_q _ | exact ol_isq_n) ?_
    refine ol_rf c_7b ?_
    refine ol_iload_n C dX10_hold_20 rfl rfl ?_
    refine ol_tpI C htj ol_tf5 wd_163 (.inl rfl) (by rcases hv with rfl | rfl <;> rfl) (by rcases hv with rfl | rfl <;> rfl) dX10_hold_21 ?_
    refine ol_iload C dX10_hold_24 rfl ?_
    refine ol_callS C (m_asNumber l D cA (T 3 j)) wd_307 wd_1 wd_305 wd_306 mh_X10_asNumber (by decide) rfl (by first | exact Nat.le_of_ble_eq_true rfl | simp [ol_rfc, Value.category]) dX10_hold_26 (ol_xi ?_)
    exact ol_iret C hret hlk rfl (by decide) (by decide) dX10_hold_29 ⟨by rw [ol_if_t hK, nI_clamp hj31], rfl, by rw [ol_if_t hK, nI_clamp hj31], rfl⟩
  · have hK := ol_kd_f c_7
    refine ol_ldc (v := (-1000001)) C wd_281 dX10_hold_10 ?_
    exact ol_iret C hret hlk rfl (by decide) (by decide) dX10_hold_12 ⟨by rw [ol_if_f hK], rfl, by rw [ol_if_f hK], rfl⟩

set_option maxRecDepth 100000 in
set_option maxHeartbeats 4000000 in
theorem x_asked (l : Launch) (D : va_G) (cA : Nat → ClassId) {ro : Nat → Nat} {I : Nat → Nat → Int32} {F : Nat → Nat → Option Nat} {ad ta pa : Nat → Nat} {n : Nat} {So : Nat → Nat} {T : Nat → Nat → Int32} {P : Nat → Nat → Option Nat} (hV : ol_V n So T P) (hL : ol_L ro F ad) (hT : ol_XT ro I F ad ta pa n So T P) (t : Int32) : ol_M l D cA yX10_asked cX10_asked 3 (some FieldType.int) (ol_r 2 0 0) [.ref (ad 1), .int t] ro I F (ol_ei (ol_if (ol_k n t) (T 4 t.toNatClampNeg) (-1000001)) ro I F) := by
  refine ol_M.of (by decide +kernel) (Nat.le_of_ble_eq_true rfl) (by simp [Value.category, ol_rfc]) ?_
  intro p e s m args below meth c C hret hlk hin
  have h40 := hV.1
  have hx1 : ol_is ro (ad 1) (.inl 0) := hL.is 1 (by decide) (by decide) rfl
  have hx11 : ol_is ro (ad 11) (.inr (2, 40)) := hL.is 11 (by decide) (by decide) rfl
  refine ol_aload_n C dX10_asked_0 rfl rfl (by first | exact ol_isq_r _ | exact ol_isq_q _ | exact ol_isq_n) ?_
  refine ol_iload_n C dX10_asked_1 rfl rfl ?_
  refine ol_callV C (m_known l D cA hx1 hL.2.1 hx11 t hT.1 h40) hx1.1 hx1.2 rfl wd_276 wd_1 wd_273 wd_275 wq_0 mh_X10_known (by decide) rfl (by first | exact Nat.le_of_ble_eq_true rfl | simp [ol_rfc, Value.category]) dX10_asked_2 (ol_xq ?_)
  rw [show ol_if (¬ t < 0 ∧ ¬ I (ad 1) 1 ≤ t) (F (ad 11) t.toNatClampNeg) none = (ol_d n t).map ta from ol_kd hT h40]
  refine ol_astore_n C dX10_asked_5 rfl (by decide) (by first | exact ol_isq_r _ | exact ol_isq_q _ | exact ol_isq_n) ?_
  refine ol_aload_n C dX10_asked_6 rfl rfl (by first | exact ol_isq_r _ | exact ol_isq_q _ | exact ol_isq_n) ?_
  refine ol_ifnonnull (tgt := 15) C dX10_asked_7 (by decide) (fun a_7 c_7 => ?_) (fun c_7 => ?_)
  · have hK := ol_kd_t c_7
    obtain ⟨j, hj, rfl, hj31⟩ := ol_k_ix hK h40
    rw [ol_d_j hK hj31] at c_7
    obtain rfl := Option.some.inj c_7
    have c_7b : (ol_d n (nI j)).map ta = some (ta j) := by rw [ol_d_j hK hj31]; rfl
    have hxj := (hT.2.1 j hj).2
    have htj := hxj.th (hV.2 j hj).1
    refine ol_aload_n C dX10_asked_15 rfl rfl (by first | exact ol_isq_r _ | exact ol_isq_q _ | exact ol_isq_n) ?_
    refine ol_rf c_7b ?_
    refine ol_tgI C htj ol_tf6 wd_165 (.inl rfl) dX10_asked_16 ?_
    refine ol_ti hxj.2.2.2.2.2.1 ?_
    exact ol_iret C hret hlk rfl (by decide) (by decide) dX10_asked_19 ⟨by rw [ol_if_t hK, nI_clamp hj31], rfl, rfl, rfl⟩
  · have hK := ol_kd_f c_7
    refine ol_ldc (v := (-1000001)) C wd_281 dX10_asked_10 ?_
    refine ol_goto (tgt := 19) C dX10_asked_12 (by decide) ?_
    exact ol_iret C hret hlk rfl (by decide) (by decide) dX10_asked_19 ⟨by rw [ol_if_f hK], rfl, rfl, rfl⟩

set_option maxRecDepth 100000 in
set_option maxHeartbeats 4000000 in
theorem x_next (l : Launch) (D : va_G) (cA : Nat → ClassId) {ro : Nat → Nat} {I : Nat → Nat → Int32} {F : Nat → Nat → Option Nat} {ad ta pa : Nat → Nat} {n : Nat} {So : Nat → Nat} {T : Nat → Nat → Int32} {P : Nat → Nat → Option Nat} (hV : ol_V n So T P) (hL : ol_L ro F ad) (hT : ol_XT ro I F ad ta pa n So T P) (t u : Int32) : ol_M l D cA yX10_next cX10_next 4 (some FieldType.int) (ol_r 2 0 0) [.ref (ad 1), .int t, .int u] ro I F (ol_ei (ol_if (ol_k n t ∧ (u = -1000009 ∨ ol_k n u)) 1 (-1000001)) ro I (ol_if (ol_k n t ∧ (u = -1000009 ∨ ol_k n u)) (ol_u2 F (ta t.toNatClampNeg) 4 ((ol_d n u).map ta)) F)) := by
  refine ol_M.of (by decide +kernel) (Nat.le_of_ble_eq_true rfl) (by simp [Value.category, ol_rfc]) ?_
  intro p e s m args below meth c C hret hlk hin
  have h40 := hV.1
  have hx1 : ol_is ro (ad 1) (.inl 0) := hL.is 1 (by decide) (by decide) rfl
  have hx11 : ol_is ro (ad 11) (.inr (2, 40)) := hL.is 11 (by decide) (by decide) rfl
  refine ol_aload_n C dX10_next_0 rfl rfl (by first | exact ol_isq_r _ | exact ol_isq_q _ | exact ol_isq_n) ?_
  refine ol_iload_n C dX10_next_1 rfl rfl ?_
  refine ol_callV C (m_known l D cA hx1 hL.2.1 hx11 t hT.1 h40) hx1.1 hx1.2 rfl wd_276 wd_1 wd_273 wd_275 wq_0 mh_X10_known (by decide) rfl (by first | exact Nat.le_of_ble_eq_true rfl | simp [ol_rfc, Value.category]) dX10_next_2 (ol_xq ?_)
  rw [show ol_if (¬ t < 0 ∧ ¬ I (ad 1) 1 ≤ t) (F (ad 11) t.toNatClampNeg) none = (ol_d n t).map ta from ol_kd hT h40]
  refine ol_astore_n C dX10_next_5 rfl (by decide) (by first | exact ol_isq_r _ | exact ol_isq_q _ | exact ol_isq_n) ?_
  refine ol_aload_n C dX10_next_6 rfl rfl (by first | exact ol_isq_r _ | exact ol_isq_q _ | exact ol_isq_n) ?_
  refine ol_ifnull (tgt := 18) C dX10_next_7 (by decide) (fun c_7 => ?_) (fun a_7 c_7 => ?_)
  · have hK := ol_kd_f c_7
    have hno : ¬ (ol_k n t ∧ (u = -1000009 ∨ ol_k n u)) := fun q => hK q.1
    refine ol_ldc (v := (-1000001)) C wd_281 dX10_next_18 ?_
    exact ol_iret C hret hlk rfl (by decide) (by decide) dX10_next_20 ⟨by rw [ol_if_f hno], rfl, rfl, by rw [ol_if_f hno]⟩
  · have hK := ol_kd_t c_7
    obtain ⟨j, hj, rfl, hj31⟩ := ol_k_ix hK h40
    rw [ol_d_j hK hj31] at c_7
    obtain rfl := Option.some.inj c_7
    have c_7b : (ol_d n (nI j)).map ta = some (ta j) := by rw [ol_d_j hK hj31]; rfl
    have hxj := (hT.2.1 j hj).2
    have htj := hxj.th (hV.2 j hj).1
    refine ol_aload_n C dX10_next_10 rfl rfl (by first | exact ol_isq_r _ | exact ol_isq_q _ | exact ol_isq_n) ?_
    refine ol_iload_n C dX10_next_11 rfl rfl ?_
    refine ol_callV C (m_isThingOrNone l D cA hx1 u) hx1.1 hx1.2 rfl wd_293 wd_1 wd_290 wd_292 wq_2 mh_X10_isThingOrNone (by decide) rfl (by first | exact Nat.le_of_ble_eq_true rfl | simp [ol_rfc, Value.category]) dX10_next_12 (ol_xi ?_)
    rw [hT.1, show ol_p (u = -1000009 ∨ (¬ u < 0 ∧ ¬ nI n ≤ u)) = ol_p (u = -1000009 ∨ ol_k n u) from rfl]
    refine ol_if_ne (tgt := 21) C dX10_next_15 (by decide) (fun c_15 => ?_) (fun c_15 => ?_)
    · have hye : ol_k n (nI j) ∧ (u = -1000009 ∨ ol_k n u) := ⟨hK, ol_p_n.mp c_15⟩
      refine ol_aload_n C dX10_next_21 rfl rfl (by first | exact ol_isq_r _ | exact ol_isq_q _ | exact ol_isq_n) ?_
      refine ol_rf c_7b ?_
      refine ol_aload_n C dX10_next_22 rfl rfl (by first | exact ol_isq_r _ | exact ol_isq_q _ | exact ol_isq_n) ?_
      refine ol_iload_n C dX10_next_23 rfl rfl ?_
      refine ol_callV C (m_known l D cA hx1 hL.2.1 hx11 u hT.1 h40) hx1.1 hx1.2 rfl wd_276 wd_1 wd_273 wd_275 wq_0 mh_X10_known (by decide) rfl (by first | exact Nat.le_of_ble_eq_true rfl | simp [ol_rfc, Value.category]) dX10_next_24 (ol_xq ?_)
      rw [show ol_if (¬ u < 0 ∧ ¬ I (ad 1) 1 ≤ u) (F (ad 11) u.toNatClampNeg) none = (ol_d n u).map ta from ol_kd hT h40]
      refine ol_tpR C rfl htj ol_tf4 wd_159 (.inl rfl) (ol_narq _ _) dX10_next_27 ?_
      refine ol_iconst (v := 1) C dX10_next_30 (by decide) ?_
      exact ol_iret C hret hlk rfl (by decide) (by decide) dX10_next_31 ⟨by rw [ol_if_t hye], rfl, rfl, by rw [ol_if_t hye, nI_clamp hj31]⟩
    · have hno : ¬ (ol_k n (nI j) ∧ (u = -1000009 ∨ ol_k n u)) := fun q => (ol_p_0.mp (Classical.not_not.mp (fun z => z c_15))) q.2
      refine ol_ldc (v := (-1000001)) C wd_281 dX10_next_18 ?_
      exact ol_iret C hret hlk rfl (by decide) (by decide) dX10_next_20 ⟨by rw [ol_if_f hno], rfl, rfl, by rw [ol_if_f hno]⟩

set_option maxRecDepth 100000 in
set_option maxHeartbeats 4000000 in
theorem x_place (l : Launch) (D : va_G) (cA : Nat → ClassId) {ro : Nat → Nat} {I : Nat → Nat → Int32} {F : Nat → Nat → Option Nat} {ad ta pa : Nat → Nat} {n : Nat} {So : Nat → Nat} {T : Nat → Nat → Int32} {P : Nat → Nat → Option Nat} (hV : ol_V n So T P) (hL : ol_L ro F ad) (hT : ol_XT ro I F ad ta pa n So T P) (t i u : Int32) : ol_M l D cA yX10_place cX10_place 5 (some FieldType.int) (ol_r 2 0 0) [.ref (ad 1), .int t, .int i, .int u] ro I F (ol_ei (ol_if (ol_k n t ∧ (u = -1000009 ∨ ol_k n u)) (ol_if (ol_k 6 i) 1 (-1000002)) (-1000001)) ro I (ol_if ((ol_k n t ∧ (u = -1000009 ∨ ol_k n u)) ∧ ol_k 6 i) (ol_u2 F (pa t.toNatClampNeg) i.toNatClampNeg ((ol_d n u).map ta)) F)) := by
  refine ol_M.of (by decide +kernel) (Nat.le_of_ble_eq_true rfl) (by simp [Value.category, ol_rfc]) ?_
  intro p e s m args below meth c C hret hlk hin
  have h40 := hV.1
  have hx1 : ol_is ro (ad 1) (.inl 0) := hL.is 1 (by decide) (by decide) rfl
  have hx11 : ol_is ro (ad 11) (.inr (2, 40)) := hL.is 11 (by decide) (by decide) rfl
  refine ol_aload_n C dX10_place_0 rfl rfl (by first | exact ol_isq_r _ | exact ol_isq_q _ | exact ol_isq_n) ?_
  refine ol_iload_n C dX10_place_1 rfl rfl ?_
  refine ol_callV C (m_known l D cA hx1 hL.2.1 hx11 t hT.1 h40) hx1.1 hx1.2 rfl wd_276 wd_1 wd_273 wd_275 wq_0 mh_X10_known (by decide) rfl (by first | exact Nat.le_of_ble_eq_true rfl | simp [ol_rfc, Value.category]) dX10_place_2 (ol_xq ?_)
  rw [show ol_if (¬ t < 0 ∧ ¬ I (ad 1) 1 ≤ t) (F (ad 11) t.toNatClampNeg) none = (ol_d n t).map ta from ol_kd hT h40]
  refine ol_astore C dX10_place_5 (by decide) (by first | exact ol_isq_r _ | exact ol_isq_q _ | exact ol_isq_n) ?_
  refine ol_aload C dX10_place_7 rfl (by first | exact ol_isq_r _ | exact ol_isq_q _ | exact ol_isq_n) ?_
  refine ol_ifnull (tgt := 20) C dX10_place_9 (by decide) (fun c_9 => ?_) (fun a_9 c_9 => ?_)
  · have hK := ol_kd_f c_9
    have hno : ¬ (ol_k n t ∧ (u = -1000009 ∨ ol_k n u)) := fun q => hK q.1
    refine ol_ldc (v := (-1000001)) C wd_281 dX10_place_20 ?_
    exact ol_iret C hret hlk rfl (by decide) (by decide) dX10_place_22 ⟨by rw [ol_if_f hno], rfl, rfl, by rw [ol_if_f (fun q => hno q.1)]⟩
  · have hK := ol_kd_t c_9
    obtain ⟨j, hj, rfl, hj31⟩ := ol_k_ix hK h40
    rw [ol_d_j hK hj31] at c_9
    obtain rfl := Option.some.inj c_9
    have c_9b : (ol_d n (nI j)).map ta = some (ta j) := by rw [ol_d_j hK hj31]; rfl
    have hxj := (hT.2.1 j hj).2
    have htj := hxj.th (hV.2 j hj).1
    refine ol_aload_n C dX10_place_12 rfl rfl (by first | exact ol_isq_r _ | exact ol_isq_q _ | exact ol_isq_n) ?_
    refine ol_iload_n C dX10_place_13 rfl rfl ?_
    refine ol_callV C (m_isThingOrNone l D cA hx1 u) hx1.1 hx1.2 rfl wd_293 wd_1 wd_290 wd_292 wq_2 mh_X10_isThingOrNone (by decide) rfl (by first | exact Nat.le_of_ble_eq_true rfl | simp [ol_rfc, Value.category]) dX10_place_14 (ol_xi ?_)
    rw [hT.1, show ol_p (u = -1000009 ∨ (¬ u < 0 ∧ ¬ nI n ≤ u)) = ol_p (u = -1000009 ∨ ol_k n u) from rfl]
    refine ol_if_ne (tgt := 23) C dX10_place_17 (by decide) (fun c_17 => ?_) (fun c_17 => ?_)
    · have hye : ol_k n (nI j) ∧ (u = -1000009 ∨ ol_k n u) := ⟨hK, ol_p_n.mp c_17⟩
      refine ol_iload_n C dX10_place_23 rfl rfl ?_
      refine ol_callS C (m_isPlace l D cA i) wd_300 wd_1 wd_298 wd_299 mh_X10_isPlace (by decide) rfl (by first | exact Nat.le_of_ble_eq_true rfl | simp [ol_rfc, Value.category]) dX10_place_24 (ol_xi ?_)
      rw [show ol_p (¬ i < 0 ∧ ¬ 6 ≤ i) = ol_p (ol_k 6 i) from rfl]
      refine ol_if_ne (tgt := 33) C dX10_place_27 (by decide) (fun c_27 => ?_) (fun c_27 => ?_)
      · have hyp : ol_k 6 i := ol_p_n.mp c_27
        obtain ⟨m, hm, rfl, hm31⟩ := ol_k_ix hyp (by omega)
        have hpl := hxj.2.2.2.2.2.2.1
        have hps := hxj.ps
        refine ol_aload C dX10_place_33 rfl (by first | exact ol_isq_r _ | exact ol_isq_q _ | exact ol_isq_n) ?_
        refine ol_rf c_9b ?_
        refine ol_tgR C htj ol_tf1 wd_145 (.inl rfl) dX10_place_35 ?_
        refine ol_rf hpl ?_
        refine ol_iload_n C dX10_place_38 rfl rfl ?_
        refine ol_aload_n C dX10_place_39 rfl rfl (by first | exact ol_isq_r _ | exact ol_isq_q _ | exact ol_isq_n) ?_
        refine ol_iload_n C dX10_place_40 rfl rfl ?_
        refine ol_callV C (m_known l D cA hx1 hL.2.1 hx11 u hT.1 h40) hx1.1 hx1.2 rfl wd_276 wd_1 wd_273 wd_275 wq_0 mh_X10_known (by decide) rfl (by first | exact Nat.le_of_ble_eq_true rfl | simp [ol_rfc, Value.category]) dX10_place_41 (ol_xq ?_)
        rw [show ol_if (¬ u < 0 ∧ ¬ I (ad 1) 1 ≤ u) (F (ad 11) u.toNatClampNeg) none = (ol_d n u).map ta from ol_kd hT h40]
        refine ol_sT m C rfl hps rfl hm (by decide) (hT.rth hV (ol_d_lt h40)) dX10_place_44 ?_
        refine ol_iconst (v := 1) C dX10_place_45 (by decide) ?_
        exact ol_iret C hret hlk rfl (by decide) (by decide) dX10_place_46 ⟨by rw [ol_if_t hye, ol_if_t hyp], rfl, rfl, by rw [ol_if_t ⟨hye, hyp⟩, nI_clamp hj31, nI_clamp hm31]⟩
      · have hnp : ¬ ol_k 6 i := ol_p_0.mp (Classical.not_not.mp (fun z => z c_27))
        refine ol_ldc (v := (-1000002)) C wd_115 dX10_place_30 ?_
        exact ol_iret C hret hlk rfl (by decide) (by decide) dX10_place_32 ⟨by rw [ol_if_t hye, ol_if_f hnp], rfl, rfl, by rw [ol_if_f (fun q => hnp q.2)]⟩
    · have hno : ¬ (ol_k n (nI j) ∧ (u = -1000009 ∨ ol_k n u)) := fun q => (ol_p_0.mp (Classical.not_not.mp (fun z => z c_17))) q.2
      refine ol_ldc (v := (-1000001)) C wd_281 dX10_place_20 ?_
      exact ol_iret C hret hlk rfl (by decide) (by decide) dX10_place_22 ⟨by rw [ol_if_f hno], rfl, rfl, by rw [ol_if_f (fun q => hno q.1)]⟩
