theorem ol_5060 {b : Nat} (hb : b ∈ [50, 60]) : b = 50 ∨ b = 60 := by simpa using hb

set_option maxRecDepth 100000 in
set_option maxHeartbeats 4000000 in
theorem g_makeEmpty (l : Launch) (D : va_G) (cA : Nat → ClassId) {ro : Nat → Nat} {I : Nat → Nat → Int32} {F : Nat → Nat → Option Nat} {b : Nat} (hb : b ∈ [50, 60]) {ad : Nat → Nat} (hL : ol_L ro F ad)  : ol_M l D cA yX4_makeEmpty cX4_makeEmpty 1 none (ol_r 1 0 0) [.ref (ad b)] ro I F (ol_ev ro (ol_u2 (ol_u2 (ol_u2 (va_up I (ad (b + 2)) (ol_fi (I (ad (b + 2))) 40 (-1000009))) (ad b) 9 0) (ad b) 10 0) (ad b) 11 0) F) := by
  refine ol_M.of (by decide +kernel) (Nat.le_of_ble_eq_true rfl) (by simp [Value.category, ol_rfc]) ?_
  intro p e s m args below meth c C hret hlk hin
  have hx : ol_is ro (ad b) (.inl 8) := by rcases ol_5060 hb with rfl | rfl <;> exact hL.is _ (by decide) (by decide) rfl
  have f2 : F (ad b) 1 = some (ad (b + 2)) := by rw [show b + 2 = b + 1 + 1 by omega]; exact hL.gf b 1 hb (by decide)
  have i2 : ol_is ro (ad (b + 2)) (.inr (0, 40)) := by rcases ol_5060 hb with rfl | rfl <;> exact hL.is _ (by decide) (by decide) rfl
  refine ol_aload_n C dX4_makeEmpty_0 rfl rfl (by first | exact ol_isq_r _ | exact ol_isq_q _ | exact ol_isq_n) ?_
  refine ol_gR (k := 1) C (by assumption) rfl rfl wd_38 (.inl rfl) dX4_makeEmpty_1 ?_
  refine ol_rf (by assumption) ?_
  refine ol_ldc (v := (-1000009)) C wd_32 dX4_makeEmpty_4 ?_
  refine ol_callS C (j_fill l D cA i2 (by decide) (-1000009)) wd_35 wd_3 wd_33 wd_34 mh_J7_fill_53178 (by decide) rfl (by first | exact Nat.le_of_ble_eq_true rfl | simp [ol_rfc, Value.category]) dX4_makeEmpty_6 (ol_xv ?_)
  refine ol_aload_n C dX4_makeEmpty_9 rfl rfl (by first | exact ol_isq_r _ | exact ol_isq_q _ | exact ol_isq_n) ?_
  refine ol_iconst (v := 0) C dX4_makeEmpty_10 (by decide) ?_
  refine ol_pI (k := 9) C (by assumption) rfl rfl wd_52 (.inl rfl) rfl rfl dX4_makeEmpty_11 ?_
  refine ol_aload_n C dX4_makeEmpty_14 rfl rfl (by first | exact ol_isq_r _ | exact ol_isq_q _ | exact ol_isq_n) ?_
  refine ol_iconst (v := 0) C dX4_makeEmpty_15 (by decide) ?_
  refine ol_pI (k := 10) C (by assumption) rfl rfl wd_54 (.inl rfl) rfl rfl dX4_makeEmpty_16 ?_
  refine ol_aload_n C dX4_makeEmpty_19 rfl rfl (by first | exact ol_isq_r _ | exact ol_isq_q _ | exact ol_isq_n) ?_
  refine ol_iconst (v := 0) C dX4_makeEmpty_20 (by decide) ?_
  refine ol_pI (k := 11) C (by assumption) rfl rfl wd_56 (.inl rfl) rfl rfl dX4_makeEmpty_21 ?_
  exact ol_vret C hret hlk (by decide) (by decide) dX4_makeEmpty_24 ⟨rfl, rfl, rfl, rfl⟩

set_option maxRecDepth 100000 in
set_option maxHeartbeats 4000000 in
theorem g_findO (l : Launch) (D : va_G) (cA : Nat → ClassId) {ro : Nat → Nat} {I : Nat → Nat → Int32} {F : Nat → Nat → Option Nat} {b : Nat} (hb : b ∈ [50, 60]) {ad : Nat → Nat} (hL : ol_L ro F ad) {a u : Nat} (ht : ol_th ro a) (hu : I a 0 = nI u) (hu40 : u < 40) (h : ¬ I (ad (b + 2)) u = -1000009) : ol_M l D cA yX4_findNode cX4_findNode 3 (some FieldType.int) (ol_r 0 0 0) [.ref (ad b), .ref a] ro I F (ol_ei (I (ad (b + 2)) u) ro I F) := by
  refine ol_M.of (by decide +kernel) (Nat.le_of_ble_eq_true rfl) (by simp [Value.category, ol_rfc]) ?_
  intro p e s m args below meth c C hret hlk hin
  have hx : ol_is ro (ad b) (.inl 8) := by rcases ol_5060 hb with rfl | rfl <;> exact hL.is _ (by decide) (by decide) rfl
  have f2 : F (ad b) 1 = some (ad (b + 2)) := by rw [show b + 2 = b + 1 + 1 by omega]; exact hL.gf b 1 hb (by decide)
  have i2 : ol_is ro (ad (b + 2)) (.inr (0, 40)) := by rcases ol_5060 hb with rfl | rfl <;> exact hL.is _ (by decide) (by decide) rfl
  refine ol_aload_n C dX4_findNode_0 rfl rfl (by first | exact ol_isq_r _ | exact ol_isq_q _ | exact ol_isq_n) ?_
  refine ol_gR (k := 1) C (by assumption) rfl rfl wd_38 (.inl rfl) dX4_findNode_1 ?_
  refine ol_rf (by assumption) ?_
  refine ol_aload_n C dX4_findNode_4 rfl rfl (by first | exact ol_isq_r _ | exact ol_isq_q _ | exact ol_isq_n) ?_
  refine ol_tgI C (by assumption) ol_tf0 wd_134 (.inr wd_135) dX4_findNode_5 ?_
  refine ol_ti hu ?_
  refine ol_lI u C (by assumption) rfl hu40 (by decide) dX4_findNode_8 ?_
  refine ol_istore_n C dX4_findNode_9 rfl (by decide) ?_
  refine ol_iload_n C dX4_findNode_10 rfl rfl ?_
  refine ol_ldc (v := (-1000009)) C wd_32 dX4_findNode_11 ?_
  refine ol_icmp_ne (tgt := 48) C dX4_findNode_13 (by decide) (fun c_13 => ?_) (fun c_13 => absurd c_13 h)
  refine ol_iload_n C dX4_findNode_48 rfl rfl ?_
  exact ol_iret C hret hlk rfl (by decide) (by decide) dX4_findNode_49 ⟨rfl, rfl, rfl, rfl⟩

set_option maxRecDepth 100000 in
set_option maxHeartbeats 4000000 in
theorem g_findN (l : Launch) (D : va_G) (cA : Nat → ClassId) {ro : Nat → Nat} {I : Nat → Nat → Int32} {F : Nat → Nat → Option Nat} {b : Nat} (hb : b ∈ [50, 60]) {ad : Nat → Nat} (hL : ol_L ro F ad) {a u : Nat} (ht : ol_th ro a) (hu : I a 0 = nI u) (hu40 : u < 40) (hr4 : ¬ ro a = 4) (h : I (ad (b + 2)) u = -1000009) {k : Nat} (hk : I (ad b) 9 = nI k) (hk40 : k < 40) : ol_M l D cA yX4_findNode cX4_findNode 3 (some FieldType.int) (ol_r 0 0 0) [.ref (ad b), .ref a] ro I F (ol_ei (nI k) ro (ol_u2 (ol_u2 I (ad (b + 2)) u (nI k)) (ad b) 9 (nI (k + 1))) (ol_u2 F (ad (b + 1)) k (some a))) := by
  refine ol_M.of (by decide +kernel) (Nat.le_of_ble_eq_true rfl) (by simp [Value.category, ol_rfc]) ?_
  intro p e s m args below meth c C hret hlk hin
  have hx : ol_is ro (ad b) (.inl 8) := by rcases ol_5060 hb with rfl | rfl <;> exact hL.is _ (by decide) (by decide) rfl
  have f1 : F (ad b) 0 = some (ad (b + 1)) := by rw [show b + 1 = b + 1 + 0 by omega]; exact hL.gf b 0 hb (by decide)
  have i1 : ol_is ro (ad (b + 1)) (.inr (3, 40)) := by rcases ol_5060 hb with rfl | rfl <;> exact hL.is _ (by decide) (by decide) rfl
  have f2 : F (ad b) 1 = some (ad (b + 2)) := by rw [show b + 2 = b + 1 + 1 by omega]; exact hL.gf b 1 hb (by decide)
  have i2 : ol_is ro (ad (b + 2)) (.inr (0, 40)) := by rcases ol_5060 hb with rfl | rfl <;> exact hL.is _ (by decide) (by decide) rfl
  have d_0_1 : ad b ≠ ad (b + 1) := by rcases ol_5060 hb with rfl | rfl <;> exact hL.ne (by decide) (by decide) (by decide)
  have d_0_2 : ad b ≠ ad (b + 2) := by rcases ol_5060 hb with rfl | rfl <;> exact hL.ne (by decide) (by decide) (by decide)
  have f2b : ol_u2 F (ad (b + 1)) k (some a) (ad b) 1 = some (ad (b + 2)) := by rw [ol_u2_a F _ d_0_1]; exact f2
  refine ol_aload_n C dX4_findNode_0 rfl rfl (by first | exact ol_isq_r _ | exact ol_isq_q _ | exact ol_isq_n) ?_
  refine ol_gR (k := 1) C (by assumption) rfl rfl wd_38 (.inl rfl) dX4_findNode_1 ?_
  refine ol_rf (by assumption) ?_
  refine ol_aload_n C dX4_findNode_4 rfl rfl (by first | exact ol_isq_r _ | exact ol_isq_q _ | exact ol_isq_n) ?_
  refine ol_tgI C (by assumption) ol_tf0 wd_134 (.inr wd_135) dX4_findNode_5 ?_
  refine ol_ti hu ?_
  refine ol_lI u C (by assumption) rfl hu40 (by decide) dX4_findNode_8 ?_
  refine ol_istore_n C dX4_findNode_9 rfl (by decide) ?_
  refine ol_iload_n C dX4_findNode_10 rfl rfl ?_
  refine ol_ldc (v := (-1000009)) C wd_32 dX4_findNode_11 ?_
  refine ol_icmp_ne (tgt := 48) C dX4_findNode_13 (by decide) (fun c_13 => absurd h c_13) (fun c_13 => ?_)
  refine ol_aload_n C dX4_findNode_16 rfl rfl (by first | exact ol_isq_r _ | exact ol_isq_q _ | exact ol_isq_n) ?_
  refine ol_gI (k := 9) C (by assumption) rfl rfl wd_52 (.inl rfl) dX4_findNode_17 ?_
  refine ol_ti hk ?_
  refine ol_istore_n C dX4_findNode_20 rfl (by decide) ?_
  refine ol_aload_n C dX4_findNode_21 rfl rfl (by first | exact ol_isq_r _ | exact ol_isq_q _ | exact ol_isq_n) ?_
  refine ol_gR (k := 0) C (by assumption) rfl rfl wd_36 (.inl rfl) dX4_findNode_22 ?_
  refine ol_rf (by assumption) ?_
  refine ol_iload_n C dX4_findNode_25 rfl rfl ?_
  refine ol_aload_n C dX4_findNode_26 rfl rfl (by first | exact ol_isq_r _ | exact ol_isq_q _ | exact ol_isq_n) ?_
  refine ol_sN (r := some _) k C rfl (by assumption) rfl hk40 (by decide) (fun c2 hc => by cases hc; exact ⟨ht, hr4⟩) dX4_findNode_27 ?_
  refine ol_aload_n C dX4_findNode_28 rfl rfl (by first | exact ol_isq_r _ | exact ol_isq_q _ | exact ol_isq_n) ?_
  refine ol_gR (k := 1) C (by assumption) rfl rfl wd_38 (.inl rfl) dX4_findNode_29 ?_
  refine ol_rf (by assumption) ?_
  refine ol_aload_n C dX4_findNode_32 rfl rfl (by first | exact ol_isq_r _ | exact ol_isq_q _ | exact ol_isq_n) ?_
  refine ol_tgI C (by assumption) ol_tf0 wd_134 (.inr wd_135) dX4_findNode_33 ?_
  refine ol_ti hu ?_
  refine ol_iload_n C dX4_findNode_36 rfl rfl ?_
  refine ol_sI u C (by assumption) rfl hu40 (by decide) dX4_findNode_37 ?_
  refine ol_aload_n C dX4_findNode_38 rfl rfl (by first | exact ol_isq_r _ | exact ol_isq_q _ | exact ol_isq_n) ?_
  refine ol_dup C dX4_findNode_39 (by first | rfl | exact ol_rfc _) ?_
  refine ol_gI (k := 9) C (by assumption) rfl rfl wd_52 (.inl rfl) dX4_findNode_40 ?_
  rw [ol_u2_a _ _ d_0_2]
  refine ol_ti hk ?_
  refine ol_iconst (v := 1) C dX4_findNode_43 (by decide) ?_
  refine ol_iadd C dX4_findNode_44 ?_
  refine ol_ti (nI_1 k) ?_
  refine ol_pI (k := 9) C (by assumption) rfl rfl wd_52 (.inl rfl) rfl rfl dX4_findNode_45 ?_
  refine ol_iload_n C dX4_findNode_48 rfl rfl ?_
  exact ol_iret C hret hlk rfl (by decide) (by decide) dX4_findNode_49 ⟨rfl, rfl, rfl, rfl⟩
