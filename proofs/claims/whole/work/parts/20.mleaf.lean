set_option maxRecDepth 100000 in
set_option maxHeartbeats 4000000 in
theorem mm_in (l : Launch) (D : va_G) (cA : Nat → ClassId) {ro : Nat → Nat} {I : Nat → Nat → Int32} {F : Nat → Nat → Option Nat} (v a b : Int32) : ol_M l D cA yX11_in cX11_in 3 (some FieldType.boolean) (ol_r 0 0 0) [.int v, .int a, .int b] ro I F (ol_ei (ol_p (¬ v < a ∧ ¬ b < v)) ro I F) := by
  refine ol_M.of (by decide +kernel) (Nat.le_of_ble_eq_true rfl) (by simp [Value.category, ol_rfc]) ?_
  intro p e s m args below meth c C hret hlk hin
  refine ol_iload_n C dX11_in_0 rfl rfl ?_
  refine ol_iload_n C dX11_in_1 rfl rfl ?_
  refine ol_icmp_lt (tgt := 14) C dX11_in_2 (by decide) (fun c_2 => ?_) (fun c_2 => ?_)
  · refine ol_iconst (v := 0) C dX11_in_14 (by decide) ?_
    exact ol_iret C hret hlk rfl (by decide) (by decide) dX11_in_15 ⟨by first | exact ol_pt ⟨c_2, c_7⟩ | exact ol_pf (fun q => q.1 c_2) | exact ol_pf (fun q => q.2 c_7), rfl, rfl, rfl⟩
  · refine ol_iload_n C dX11_in_5 rfl rfl ?_
    refine ol_iload_n C dX11_in_6 rfl rfl ?_
    refine ol_icmp_gt (tgt := 14) C dX11_in_7 (by decide) (fun c_7 => ?_) (fun c_7 => ?_)
    · refine ol_iconst (v := 0) C dX11_in_14 (by decide) ?_
      exact ol_iret C hret hlk rfl (by decide) (by decide) dX11_in_15 ⟨by first | exact ol_pt ⟨c_2, c_7⟩ | exact ol_pf (fun q => q.1 c_2) | exact ol_pf (fun q => q.2 c_7), rfl, rfl, rfl⟩
    · refine ol_iconst (v := 1) C dX11_in_10 (by decide) ?_
      refine ol_goto (tgt := 15) C dX11_in_11 (by decide) ?_
      exact ol_iret C hret hlk rfl (by decide) (by decide) dX11_in_15 ⟨by first | exact ol_pt ⟨c_2, c_7⟩ | exact ol_pf (fun q => q.1 c_2) | exact ol_pf (fun q => q.2 c_7), rfl, rfl, rfl⟩

set_option maxRecDepth 100000 in
set_option maxHeartbeats 4000000 in
theorem mm_isThing (l : Launch) (D : va_G) (cA : Nat → ClassId) {ro : Nat → Nat} {I : Nat → Nat → Int32} {F : Nat → Nat → Option Nat} {ad : Nat → Nat} (hL : ol_L ro F ad) {n : Nat} (hn : I (ad 10) 0 = nI n) (h40 : n ≤ 40) (t : Int32) : ol_M l D cA yX11_isThing cX11_isThing 2 (some FieldType.boolean) (ol_r 1 0 0) [.ref (ad 10), .int t] ro I F (ol_ei (ol_p (ol_k n t)) ro I F) := by
  refine ol_M.of (by decide +kernel) (Nat.le_of_ble_eq_true rfl) (by simp [Value.category, ol_rfc]) ?_
  intro p e s m args below meth c C hret hlk hin
  have hm : ol_is ro (ad 10) (.inl 9) := hL.is 10 (by decide) (by decide) rfl
  refine ol_iload_n C dX11_isThing_0 rfl rfl ?_
  refine ol_iconst (v := 0) C dX11_isThing_1 (by decide) ?_
  refine ol_aload_n C dX11_isThing_2 rfl rfl (by first | exact ol_isq_r _ | exact ol_isq_q _ | exact ol_isq_n) ?_
  refine ol_gI (k := 0) C (by assumption) rfl rfl wd_580 (.inl rfl) dX11_isThing_3 ?_
  refine ol_iconst (v := 1) C dX11_isThing_6 (by decide) ?_
  refine ol_isub C dX11_isThing_7 ?_
  refine ol_callS C (mm_in l D cA t 0 (I (ad 10) 0 - 1)) wd_674 wd_4 wd_672 wd_673 mh_X11_in (by decide) rfl (by first | exact Nat.le_of_ble_eq_true rfl | simp [ol_rfc, Value.category]) dX11_isThing_8 (ol_xi ?_)
  exact ol_iret C hret hlk (ol_p_nar _) (by decide) (by decide) dX11_isThing_11 ⟨by rw [hn, ol_p_c (ol_k_m1 (ol_40 h40))], rfl, rfl, rfl⟩

set_option maxRecDepth 100000 in
set_option maxHeartbeats 4000000 in
theorem mm_value (l : Launch) (D : va_G) (cA : Nat → ClassId) {ro : Nat → Nat} {I : Nat → Nat → Int32} {F : Nat → Nat → Option Nat} {ad : Nat → Nat} (hL : ol_L ro F ad) {n : Nat} (hn : I (ad 10) 0 = nI n) (h40 : n ≤ 40) (t v : Int32) : ol_M l D cA yX11_value cX11_value 4 (some FieldType.int) (ol_r 2 0 0) [.ref (ad 10), .int t, .int v] ro I F (ol_ei (ol_if (ol_k n t) (I (ad 24) t.toNatClampNeg) (-1000001)) ro (ol_if (ol_k n t) (ol_u2 I (ad 24) t.toNatClampNeg v) I) F) := by
  refine ol_M.of (by decide +kernel) (Nat.le_of_ble_eq_true rfl) (by simp [Value.category, ol_rfc]) ?_
  intro p e s m args below meth c C hret hlk hin
  have hm : ol_is ro (ad 10) (.inl 9) := hL.is 10 (by decide) (by decide) rfl
  have f_vs : F (ad 10) 3 = some (ad 24) := hL.mf 3 24 (by decide)
  have i_vs : ol_is ro (ad 24) (.inr (0, 40)) := hL.is 24 (by decide) (by decide) rfl
  refine ol_aload_n C dX11_value_0 rfl rfl (by first | exact ol_isq_r _ | exact ol_isq_q _ | exact ol_isq_n) ?_
  refine ol_iload_n C dX11_value_1 rfl rfl ?_
  refine ol_callV C (mm_isThing l D cA hL hn h40 t) hm.1 hm.2 rfl wd_685 wd_4 wd_682 wd_684 wq_12 mh_X11_isThing (by decide) rfl (by first | exact Nat.le_of_ble_eq_true rfl | simp [ol_rfc, Value.category]) dX11_value_2 (ol_xi ?_)
  refine ol_if_ne (tgt := 11) C dX11_value_5 (by decide) (fun c_5 => ?_) (fun c_5 => ?_)
  · have hK := ol_p_n.mp c_5
    obtain ⟨j, hj, rfl, hj31⟩ := ol_k_ix hK h40
    have hj40 : j < 40 := by omega
    refine ol_aload_n C dX11_value_11 rfl rfl (by first | exact ol_isq_r _ | exact ol_isq_q _ | exact ol_isq_n) ?_
    refine ol_gR (k := 3) C (by assumption) rfl rfl wd_583 (.inl rfl) dX11_value_12 ?_
    refine ol_rf (by assumption) ?_
    refine ol_iload_n C dX11_value_15 rfl rfl ?_
    refine ol_lI j C (by assumption) rfl hj40 (by decide) dX11_value_16 ?_
    refine ol_istore_n C dX11_value_17 rfl (by decide) ?_
    refine ol_aload_n C dX11_value_18 rfl rfl (by first | exact ol_isq_r _ | exact ol_isq_q _ | exact ol_isq_n) ?_
    refine ol_gR (k := 3) C (by assumption) rfl rfl wd_583 (.inl rfl) dX11_value_19 ?_
    refine ol_rf (by assumption) ?_
    refine ol_iload_n C dX11_value_22 rfl rfl ?_
    refine ol_iload_n C dX11_value_23 rfl rfl ?_
    refine ol_sI j C (by assumption) rfl hj40 (by decide) dX11_value_24 ?_
    refine ol_iload_n C dX11_value_25 rfl rfl ?_
    exact ol_iret C hret hlk rfl (by decide) (by decide) dX11_value_26 ⟨by rw [ol_if_t hK, nI_clamp hj31], rfl, by rw [ol_if_t hK, nI_clamp hj31], rfl⟩
  · have hK := ol_p_0.mp c_5
    refine ol_ldc (v := (-1000001)) C wd_686 dX11_value_8 ?_
    exact ol_iret C hret hlk rfl (by decide) (by decide) dX11_value_10 ⟨by rw [ol_if_f hK], rfl, by rw [ol_if_f hK], rfl⟩

set_option maxRecDepth 100000 in
set_option maxHeartbeats 4000000 in
theorem mm_key (l : Launch) (D : va_G) (cA : Nat → ClassId) {ro : Nat → Nat} {I : Nat → Nat → Int32} {F : Nat → Nat → Option Nat} {ad : Nat → Nat} (hL : ol_L ro F ad) {n : Nat} (hn : I (ad 10) 0 = nI n) (h40 : n ≤ 40) (t v : Int32) : ol_M l D cA yX11_key cX11_key 4 (some FieldType.int) (ol_r 2 0 0) [.ref (ad 10), .int t, .int v] ro I F (ol_ei (ol_if (ol_k n t) (I (ad 23) t.toNatClampNeg) (-1000001)) ro (ol_if (ol_k n t) (ol_u2 I (ad 23) t.toNatClampNeg v) I) F) := by
  refine ol_M.of (by decide +kernel) (Nat.le_of_ble_eq_true rfl) (by simp [Value.category, ol_rfc]) ?_
  intro p e s m args below meth c C hret hlk hin
  have hm : ol_is ro (ad 10) (.inl 9) := hL.is 10 (by decide) (by decide) rfl
  have f_keys : F (ad 10) 2 = some (ad 23) := hL.mf 2 23 (by decide)
  have i_keys : ol_is ro (ad 23) (.inr (0, 40)) := hL.is 23 (by decide) (by decide) rfl
  refine ol_aload_n C dX11_key_0 rfl rfl (by first | exact ol_isq_r _ | exact ol_isq_q _ | exact ol_isq_n) ?_
  refine ol_iload_n C dX11_key_1 rfl rfl ?_
  refine ol_callV C (mm_isThing l D cA hL hn h40 t) hm.1 hm.2 rfl wd_685 wd_4 wd_682 wd_684 wq_12 mh_X11_isThing (by decide) rfl (by first | exact Nat.le_of_ble_eq_true rfl | simp [ol_rfc, Value.category]) dX11_key_2 (ol_xi ?_)
  refine ol_if_ne (tgt := 11) C dX11_key_5 (by decide) (fun c_5 => ?_) (fun c_5 => ?_)
  · have hK := ol_p_n.mp c_5
    obtain ⟨j, hj, rfl, hj31⟩ := ol_k_ix hK h40
    have hj40 : j < 40 := by omega
    refine ol_aload_n C dX11_key_11 rfl rfl (by first | exact ol_isq_r _ | exact ol_isq_q _ | exact ol_isq_n) ?_
    refine ol_gR (k := 2) C (by assumption) rfl rfl wd_582 (.inl rfl) dX11_key_12 ?_
    refine ol_rf (by assumption) ?_
    refine ol_iload_n C dX11_key_15 rfl rfl ?_
    refine ol_lI j C (by assumption) rfl hj40 (by decide) dX11_key_16 ?_
    refine ol_istore_n C dX11_key_17 rfl (by decide) ?_
    refine ol_aload_n C dX11_key_18 rfl rfl (by first | exact ol_isq_r _ | exact ol_isq_q _ | exact ol_isq_n) ?_
    refine ol_gR (k := 2) C (by assumption) rfl rfl wd_582 (.inl rfl) dX11_key_19 ?_
    refine ol_rf (by assumption) ?_
    refine ol_iload_n C dX11_key_22 rfl rfl ?_
    refine ol_iload_n C dX11_key_23 rfl rfl ?_
    refine ol_sI j C (by assumption) rfl hj40 (by decide) dX11_key_24 ?_
    refine ol_iload_n C dX11_key_25 rfl rfl ?_
    exact ol_iret C hret hlk rfl (by decide) (by decide) dX11_key_26 ⟨by rw [ol_if_t hK, nI_clamp hj31], rfl, by rw [ol_if_t hK, nI_clamp hj31], rfl⟩
  · have hK := ol_p_0.mp c_5
    refine ol_ldc (v := (-1000001)) C wd_686 dX11_key_8 ?_
    exact ol_iret C hret hlk rfl (by decide) (by decide) dX11_key_10 ⟨by rw [ol_if_f hK], rfl, by rw [ol_if_f hK], rfl⟩

set_option maxRecDepth 100000 in
set_option maxHeartbeats 4000000 in
theorem mm_isBridge (l : Launch) (D : va_G) (cA : Nat → ClassId) {ro : Nat → Nat} {I : Nat → Nat → Int32} {F : Nat → Nat → Option Nat} {ad : Nat → Nat} (hL : ol_L ro F ad) {n : Nat} (h40 : n ≤ 40) {q : Option Nat} (hq : ∀ u, q = some u → u < n) : ol_M l D cA yX11_isBridge cX11_isBridge 2 (some FieldType.boolean) (ol_r 0 0 0) [.ref (ad 10), .int (ol_e q)] ro I F (ol_ei (ol_p (∃ u, q = some u ∧ I (ad 22) u = 2)) ro I F) := by
  refine ol_M.of (by decide +kernel) (Nat.le_of_ble_eq_true rfl) (by simp [Value.category, ol_rfc]) ?_
  intro p e s m args below meth c C hret hlk hin
  have hm : ol_is ro (ad 10) (.inl 9) := hL.is 10 (by decide) (by decide) rfl
  have f_sorts : F (ad 10) 1 = some (ad 22) := hL.mf 1 22 (by decide)
  have i_sorts : ol_is ro (ad 22) (.inr (0, 40)) := hL.is 22 (by decide) (by decide) rfl
  refine ol_iload_n C dX11_isBridge_0 rfl rfl ?_
  refine ol_ldc (v := (-1000009)) C wd_677 dX11_isBridge_1 ?_
  refine ol_icmp_eq (tgt := 20) C dX11_isBridge_3 (by decide) (fun c_3 => ?_) (fun c_3 => ?_)
  · have hz := ol_e_n (fun u hu => by have := hq u hu; omega) c_3
    refine ol_iconst (v := 0) C dX11_isBridge_20 (by decide) ?_
    exact ol_iret C hret hlk rfl (by decide) (by decide) dX11_isBridge_21 ⟨by first | exact ol_pt ⟨u, hu, c_13⟩ | exact ol_pf (fun ⟨w, e1, e2⟩ => absurd (hz.symm.trans e1) (by simp)) | exact ol_pf (fun ⟨w, e1, e2⟩ => c_13 (by cases hu.symm.trans e1; exact e2)), rfl, rfl, rfl⟩
  · obtain ⟨u, hu, eu⟩ := ol_e_s c_3
    have hu40 : u < 40 := by have := hq u hu; omega
    refine ol_aload_n C dX11_isBridge_6 rfl rfl (by first | exact ol_isq_r _ | exact ol_isq_q _ | exact ol_isq_n) ?_
    refine ol_gR (k := 1) C (by assumption) rfl rfl wd_581 (.inl rfl) dX11_isBridge_7 ?_
    refine ol_rf (by assumption) ?_
    refine ol_iload_n C dX11_isBridge_10 rfl rfl ?_
    refine ol_lI u C (by assumption) eu hu40 (by decide) dX11_isBridge_11 ?_
    refine ol_iconst (v := 2) C dX11_isBridge_12 (by decide) ?_
    refine ol_icmp_ne (tgt := 20) C dX11_isBridge_13 (by decide) (fun c_13 => ?_) (fun c_13 => ?_)
    · refine ol_iconst (v := 0) C dX11_isBridge_20 (by decide) ?_
      exact ol_iret C hret hlk rfl (by decide) (by decide) dX11_isBridge_21 ⟨by first | exact ol_pt ⟨u, hu, c_13⟩ | exact ol_pf (fun ⟨w, e1, e2⟩ => absurd (hz.symm.trans e1) (by simp)) | exact ol_pf (fun ⟨w, e1, e2⟩ => c_13 (by cases hu.symm.trans e1; exact e2)), rfl, rfl, rfl⟩
    · refine ol_iconst (v := 1) C dX11_isBridge_16 (by decide) ?_
      refine ol_goto (tgt := 21) C dX11_isBridge_17 (by decide) ?_
      exact ol_iret C hret hlk rfl (by decide) (by decide) dX11_isBridge_21 ⟨by first | exact ol_pt ⟨u, hu, c_13⟩ | exact ol_pf (fun ⟨w, e1, e2⟩ => absurd (hz.symm.trans e1) (by simp)) | exact ol_pf (fun ⟨w, e1, e2⟩ => c_13 (by cases hu.symm.trans e1; exact e2)), rfl, rfl, rfl⟩

set_option maxRecDepth 100000 in
set_option maxHeartbeats 4000000 in
theorem mm_tellKey (l : Launch) (D : va_G) (cA : Nat → ClassId) {ro : Nat → Nat} {I : Nat → Nat → Int32} {F : Nat → Nat → Option Nat} {ad : Nat → Nat} (hL : ol_L ro F ad) {t : Nat} (ht : t < 40) : ol_M l D cA yX11_tellKey cX11_tellKey 2 (some FieldType.int) (ol_r 0 0 0) [.ref (ad 10), .int (nI t)] ro I F (ol_ei (ol_p (I (ad 22) t = 6 ∧ I (ad 27) t = 0)) ro (ol_u2 I (ad 10) 9 (I (ad 23) t)) F) := by
  refine ol_M.of (by decide +kernel) (Nat.le_of_ble_eq_true rfl) (by simp [Value.category, ol_rfc]) ?_
  intro p e s m args below meth c C hret hlk hin
  have hm : ol_is ro (ad 10) (.inl 9) := hL.is 10 (by decide) (by decide) rfl
  have f_sorts : F (ad 10) 1 = some (ad 22) := hL.mf 1 22 (by decide)
  have i_sorts : ol_is ro (ad 22) (.inr (0, 40)) := hL.is 22 (by decide) (by decide) rfl
  have f_keys : F (ad 10) 2 = some (ad 23) := hL.mf 2 23 (by decide)
  have i_keys : ol_is ro (ad 23) (.inr (0, 40)) := hL.is 23 (by decide) (by decide) rfl
  have f_isHeld : F (ad 10) 6 = some (ad 27) := hL.mf 6 27 (by decide)
  have i_isHeld : ol_is ro (ad 27) (.inr (1, 40)) := hL.is 27 (by decide) (by decide) rfl
  have n22 : ad 22 ≠ ad 10 := hL.ne (by decide) (by decide) (by decide)
  have n27 : ad 27 ≠ ad 10 := hL.ne (by decide) (by decide) (by decide)
  refine ol_aload_n C dX11_tellKey_0 rfl rfl (by first | exact ol_isq_r _ | exact ol_isq_q _ | exact ol_isq_n) ?_
  refine ol_aload_n C dX11_tellKey_1 rfl rfl (by first | exact ol_isq_r _ | exact ol_isq_q _ | exact ol_isq_n) ?_
  refine ol_gR (k := 2) C (by assumption) rfl rfl wd_582 (.inl rfl) dX11_tellKey_2 ?_
  refine ol_rf (by assumption) ?_
  refine ol_iload_n C dX11_tellKey_5 rfl rfl ?_
  refine ol_lI t C (by assumption) rfl ht (by decide) dX11_tellKey_6 ?_
  refine ol_pI (k := 9) C (by assumption) rfl rfl wd_589 (.inl rfl) rfl rfl dX11_tellKey_7 ?_
  refine ol_aload_n C dX11_tellKey_10 rfl rfl (by first | exact ol_isq_r _ | exact ol_isq_q _ | exact ol_isq_n) ?_
  refine ol_gR (k := 1) C (by assumption) rfl rfl wd_581 (.inl rfl) dX11_tellKey_11 ?_
  refine ol_rf (by assumption) ?_
  refine ol_iload_n C dX11_tellKey_14 rfl rfl ?_
  refine ol_lI t C (by assumption) rfl ht (by decide) dX11_tellKey_15 ?_
  rw [ol_u2_a I _ n22]
  refine ol_bipush (v := 6) C dX11_tellKey_16 (by decide) ?_
  refine ol_icmp_ne (tgt := 34) C dX11_tellKey_18 (by decide) (fun c_18 => ?_) (fun c_18 => ?_)
  · refine ol_iconst (v := 0) C dX11_tellKey_34 (by decide) ?_
    exact ol_iret C hret hlk rfl (by decide) (by decide) dX11_tellKey_35 ⟨by first | exact ol_pt ⟨c_18, c_27⟩ | exact ol_pf (fun q => c_18 q.1) | exact ol_pf (fun q => c_27 q.2), rfl, rfl, rfl⟩
  · refine ol_aload_n C dX11_tellKey_21 rfl rfl (by first | exact ol_isq_r _ | exact ol_isq_q _ | exact ol_isq_n) ?_
    refine ol_gR (k := 6) C (by assumption) rfl rfl wd_586 (.inl rfl) dX11_tellKey_22 ?_
    refine ol_rf (by assumption) ?_
    refine ol_iload_n C dX11_tellKey_25 rfl rfl ?_
    refine ol_lZ t C (by assumption) rfl ht (by decide) dX11_tellKey_26 ?_
    rw [ol_u2_a I _ n27]
    refine ol_if_ne (tgt := 34) C dX11_tellKey_27 (by decide) (fun c_27 => ?_) (fun c_27 => ?_)
    · refine ol_iconst (v := 0) C dX11_tellKey_34 (by decide) ?_
      exact ol_iret C hret hlk rfl (by decide) (by decide) dX11_tellKey_35 ⟨by first | exact ol_pt ⟨c_18, c_27⟩ | exact ol_pf (fun q => c_18 q.1) | exact ol_pf (fun q => c_27 q.2), rfl, rfl, rfl⟩
    · refine ol_iconst (v := 1) C dX11_tellKey_30 (by decide) ?_
      refine ol_goto (tgt := 35) C dX11_tellKey_31 (by decide) ?_
      exact ol_iret C hret hlk rfl (by decide) (by decide) dX11_tellKey_35 ⟨by first | exact ol_pt ⟨c_18, c_27⟩ | exact ol_pf (fun q => c_18 q.1) | exact ol_pf (fun q => c_27 q.2), rfl, rfl, rfl⟩

set_option maxRecDepth 100000 in
set_option maxHeartbeats 4000000 in
theorem mm_tellValue (l : Launch) (D : va_G) (cA : Nat → ClassId) {ro : Nat → Nat} {I : Nat → Nat → Int32} {F : Nat → Nat → Option Nat} {ad : Nat → Nat} (hL : ol_L ro F ad) {t : Nat} (ht : t < 40) : ol_M l D cA yX11_tellValue cX11_tellValue 3 (some FieldType.int) (ol_r 0 0 0) [.ref (ad 10), .int (nI t)] ro I F (ol_ei (ol_if (I (ad 22) t = 3 ∧ I (ad 24) t = 0) 4 0) ro (ol_u2 I (ad 10) 9 (ol_if (I (ad 22) t = 3) (ol_if (I (ad 24) t = 0) 0 (100 / I (ad 24) t)) (ol_if (I (ad 22) t = 1) (2 * I (ad 24) t) (ol_if (I (ad 22) t = 4) (2 * I (ad 24) t + 1) (I (ad 24) t))))) F) := by
  refine ol_M.of (by decide +kernel) (Nat.le_of_ble_eq_true rfl) (by simp [Value.category, ol_rfc]) ?_
  intro p e s m args below meth c C hret hlk hin
  have hm : ol_is ro (ad 10) (.inl 9) := hL.is 10 (by decide) (by decide) rfl
  have f_sorts : F (ad 10) 1 = some (ad 22) := hL.mf 1 22 (by decide)
  have i_sorts : ol_is ro (ad 22) (.inr (0, 40)) := hL.is 22 (by decide) (by decide) rfl
  have f_vs : F (ad 10) 3 = some (ad 24) := hL.mf 3 24 (by decide)
  have i_vs : ol_is ro (ad 24) (.inr (0, 40)) := hL.is 24 (by decide) (by decide) rfl
  refine ol_aload_n C dX11_tellValue_0 rfl rfl (by first | exact ol_isq_r _ | exact ol_isq_q _ | exact ol_isq_n) ?_
  refine ol_gR (k := 3) C (by assumption) rfl rfl wd_583 (.inl rfl) dX11_tellValue_1 ?_
  refine ol_rf (by assumption) ?_
  refine ol_iload_n C dX11_tellValue_4 rfl rfl ?_
  refine ol_lI t C (by assumption) rfl ht (by decide) dX11_tellValue_5 ?_
  refine ol_istore_n C dX11_tellValue_6 rfl (by decide) ?_
  refine ol_aload_n C dX11_tellValue_7 rfl rfl (by first | exact ol_isq_r _ | exact ol_isq_q _ | exact ol_isq_n) ?_
  refine ol_gR (k := 1) C (by assumption) rfl rfl wd_581 (.inl rfl) dX11_tellValue_8 ?_
  refine ol_rf (by assumption) ?_
  refine ol_iload_n C dX11_tellValue_11 rfl rfl ?_
  refine ol_lI t C (by assumption) rfl ht (by decide) dX11_tellValue_12 ?_
  refine ol_iconst (v := 3) C dX11_tellValue_13 (by decide) ?_
  refine ol_icmp_ne (tgt := 43) C dX11_tellValue_14 (by decide) (fun c_14 => ?_) (fun c_14 => ?_)
  · refine ol_aload_n C dX11_tellValue_43 rfl rfl (by first | exact ol_isq_r _ | exact ol_isq_q _ | exact ol_isq_n) ?_
    refine ol_aload_n C dX11_tellValue_44 rfl rfl (by first | exact ol_isq_r _ | exact ol_isq_q _ | exact ol_isq_n) ?_
    refine ol_gR (k := 1) C (by assumption) rfl rfl wd_581 (.inl rfl) dX11_tellValue_45 ?_
    refine ol_rf (by assumption) ?_
    refine ol_iload_n C dX11_tellValue_48 rfl rfl ?_
    refine ol_lI t C (by assumption) rfl ht (by decide) dX11_tellValue_49 ?_
    refine ol_iconst (v := 1) C dX11_tellValue_50 (by decide) ?_
    refine ol_icmp_ne (tgt := 60) C dX11_tellValue_51 (by decide) (fun c_51 => ?_) (fun c_51 => ?_)
    · refine ol_aload_n C dX11_tellValue_60 rfl rfl (by first | exact ol_isq_r _ | exact ol_isq_q _ | exact ol_isq_n) ?_
      refine ol_gR (k := 1) C (by assumption) rfl rfl wd_581 (.inl rfl) dX11_tellValue_61 ?_
      refine ol_rf (by assumption) ?_
      refine ol_iload_n C dX11_tellValue_64 rfl rfl ?_
      refine ol_lI t C (by assumption) rfl ht (by decide) dX11_tellValue_65 ?_
      refine ol_iconst (v := 4) C dX11_tellValue_66 (by decide) ?_
      refine ol_icmp_ne (tgt := 78) C dX11_tellValue_67 (by decide) (fun c_67 => ?_) (fun c_67 => ?_)
      · refine ol_iload_n C dX11_tellValue_78 rfl rfl ?_
        refine ol_pI (k := 9) C (by assumption) rfl rfl wd_589 (.inl rfl) rfl rfl dX11_tellValue_79 ?_
        refine ol_iconst (v := 0) C dX11_tellValue_82 (by decide) ?_
        exact ol_iret C hret hlk rfl (by decide) (by decide) dX11_tellValue_83 ⟨by rw [ol_if_f (fun q => c_14 q.1)], rfl, by rw [ol_if_f c_14, ol_if_f c_51, ol_if_f c_67], rfl⟩
      · refine ol_iconst (v := 2) C dX11_tellValue_70 (by decide) ?_
        refine ol_iload_n C dX11_tellValue_71 rfl rfl ?_
        refine ol_imul C dX11_tellValue_72 ?_
        refine ol_iconst (v := 1) C dX11_tellValue_73 (by decide) ?_
        refine ol_iadd C dX11_tellValue_74 ?_
        refine ol_goto (tgt := 79) C dX11_tellValue_75 (by decide) ?_
        refine ol_pI (k := 9) C (by assumption) rfl rfl wd_589 (.inl rfl) rfl rfl dX11_tellValue_79 ?_
        refine ol_iconst (v := 0) C dX11_tellValue_82 (by decide) ?_
        exact ol_iret C hret hlk rfl (by decide) (by decide) dX11_tellValue_83 ⟨by rw [ol_if_f (fun q => c_14 q.1)], rfl, by rw [ol_if_f c_14, ol_if_f c_51, ol_if_t c_67], rfl⟩
    · refine ol_iconst (v := 2) C dX11_tellValue_54 (by decide) ?_
      refine ol_iload_n C dX11_tellValue_55 rfl rfl ?_
      refine ol_imul C dX11_tellValue_56 ?_
      refine ol_goto (tgt := 79) C dX11_tellValue_57 (by decide) ?_
      refine ol_pI (k := 9) C (by assumption) rfl rfl wd_589 (.inl rfl) rfl rfl dX11_tellValue_79 ?_
      refine ol_iconst (v := 0) C dX11_tellValue_82 (by decide) ?_
      exact ol_iret C hret hlk rfl (by decide) (by decide) dX11_tellValue_83 ⟨by rw [ol_if_f (fun q => c_14 q.1)], rfl, by rw [ol_if_f c_14, ol_if_t c_51], rfl⟩
  · refine ol_aload_n C dX11_tellValue_17 rfl rfl (by first | exact ol_isq_r _ | exact ol_isq_q _ | exact ol_isq_n) ?_
    refine ol_iload_n C dX11_tellValue_18 rfl rfl ?_
    refine ol_if_ne (tgt := 26) C dX11_tellValue_19 (by decide) (fun c_19 => ?_) (fun c_19 => ?_)
    · refine ol_bipush (v := 100) C dX11_tellValue_26 (by decide) ?_
      refine ol_iload_n C dX11_tellValue_28 rfl rfl ?_
      refine ol_idiv C dX11_tellValue_29 (by assumption) ?_
      refine ol_pI (k := 9) C (by assumption) rfl rfl wd_589 (.inl rfl) rfl rfl dX11_tellValue_30 ?_
      refine ol_iload_n C dX11_tellValue_33 rfl rfl ?_
      refine ol_if_ne (tgt := 41) C dX11_tellValue_34 (by decide) (fun c_34 => ?_) (fun c_34 => ?_)
      · refine ol_iconst (v := 0) C dX11_tellValue_41 (by decide) ?_
        exact ol_iret C hret hlk rfl (by decide) (by decide) dX11_tellValue_42 ⟨by rw [ol_if_f (fun q => c_34 q.2)], rfl, by rw [ol_if_t c_14, ol_if_f c_19], rfl⟩
      · exact absurd c_34 c_19
    · refine ol_iconst (v := 0) C dX11_tellValue_22 (by decide) ?_
      refine ol_goto (tgt := 30) C dX11_tellValue_23 (by decide) ?_
      refine ol_pI (k := 9) C (by assumption) rfl rfl wd_589 (.inl rfl) rfl rfl dX11_tellValue_30 ?_
      refine ol_iload_n C dX11_tellValue_33 rfl rfl ?_
      refine ol_if_ne (tgt := 41) C dX11_tellValue_34 (by decide) (fun c_34 => ?_) (fun c_34 => ?_)
      · exact absurd c_19 c_34
      · refine ol_iconst (v := 4) C dX11_tellValue_37 (by decide) ?_
        refine ol_goto (tgt := 42) C dX11_tellValue_38 (by decide) ?_
        exact ol_iret C hret hlk rfl (by decide) (by decide) dX11_tellValue_42 ⟨by rw [ol_if_t ⟨c_14, c_34⟩], rfl, by rw [ol_if_t c_14, ol_if_t c_19], rfl⟩
