/-- what endLoad leaves -/
def ol_xr (I : Nat → Nat → Int32) (ad : Nat → Nat) (a b d : Int32) : Nat → Nat → Int32 := ol_u2 (ol_u2 (ol_u2 I (ad 1) 4 a) (ad 1) 5 b) (ad 1) 6 d
theorem g_find (l : Launch) (D : va_G) (cA : Nat → ClassId) {ro : Nat → Nat} {I : Nat → Nat → Int32} {F : Nat → Nat → Option Nat} {ad ta pa : Nat → Nat} {g n : Nat} {So : Nat → Nat} {T : Nat → Nat → Int32} {P : Nat → Nat → Option Nat} (hV : ol_V n So T P) (hg : g ∈ [50, 60]) {I0 : Nat → Nat → Int32} {F0 : Nat → Nat → Option Nat} {b : ol_B} {kc kf M u : Nat} (h : ol_XI ro ad ta pa g n So T P I0 F0 I F b kc kf) (hB : ol_BW n So b M) (hu : u < n) (hs : ¬ So u = 2) : ol_M l D cA yX4_findNode cX4_findNode 3 (some .int) (ol_r 0 0 0) [.ref (ad g), .ref (ta u)] ro I F (fun v ro' I' F' => v = some (.int (nI (sp_no b u))) ∧ ro' = ro ∧ ol_XI ro ad ta pa g n So T P I0 F0 I' F' (sp_find b u) kc kf) := by
  have h40 := hV.1
  have hx := (h.2.2.1.2.1 u hu).2
  have ht := hx.th (hV.2 u hu).1
  have e5 : I (ad (g + 2)) u = ol_e (b.2.2.2 u) := h.2.2.2.1.2.2.2.2.1 u (by omega)
  cases ho : b.2.2.2 u with
  | some k =>
    rw [ho] at e5
    have hk : k < 40 := by
      have := (hB.2.2.1 u k ho).2.1
      have := hB.le
      omega
    refine (g_findO l D cA hg h.1 ht hx.2.1 (by omega) (by rw [e5]; exact ol_nI_none (by omega))).mono ?_
    rintro v ro' I' F' ⟨rfl, rfl, rfl, rfl⟩
    have eb : sp_find b u = b := by
      unfold sp_find
      rw [ho]
    have en : sp_no b u = k := by
      unfold sp_no
      rw [ho]
    rw [eb, en, e5]
    exact ⟨rfl, rfl, h⟩
  | none =>
    rw [ho] at e5
    have hk : b.2.1 0 0 < 40 := by
      have := hB.lt hu ho
      omega
    refine (g_findN l D cA hg h.1 ht hx.2.1 (by omega) (by rw [hx.1]; omega) e5 h.2.2.2.1.1 hk).mono ?_
    rintro v ro' I' F' ⟨rfl, rfl, rfl, rfl⟩
    have en : sp_no b u = b.2.1 0 0 := by
      unfold sp_no
      rw [ho]
    rw [en]
    exact ⟨rfl, rfl, h.findN hV hg ho⟩

set_option maxRecDepth 100000 in
set_option maxHeartbeats 4000000 in
theorem g_addArc (l : Launch) (D : va_G) (cA : Nat → ClassId) {ro : Nat → Nat} {I : Nat → Nat → Int32} {F : Nat → Nat → Option Nat} {ad ta pa : Nat → Nat} {g n : Nat} {So : Nat → Nat} {T : Nat → Nat → Int32} {P : Nat → Nat → Option Nat} (hV : ol_V n So T P) (hg : g ∈ [50, 60]) {I0 : Nat → Nat → Int32} {F0 : Nat → Nat → Option Nat} {b : ol_B} {kc kf M u : Nat} (h : ol_XI ro ad ta pa g n So T P I0 F0 I F b kc kf) (hB : ol_BW n So b M) (hM : M < 240) (hu : u < n) (hs : ¬ So u = 2) (w br : Int32) (hbr : vp_nar .boolean br = br) : ol_M l D cA yX4_addArc cX4_addArc 4 none (ol_r 1 0 0) [.ref (ad g), .ref (ta u), .int w, .int br] ro I F (fun v ro' I' F' => v = none ∧ ro' = ro ∧ ol_XI ro ad ta pa g n So T P I0 F0 I' F' (sp_arc b u w br) kc kf) := by
  refine ol_M.of (by decide +kernel) (Nat.le_of_ble_eq_true rfl) (by simp [Value.category, ol_rfc]) ?_
  intro p e s m args below meth c C hret hlk hin
  have hL := h.1
  have hxg : ol_is ro (ad g) (.inl 8) := by rcases ol_5060 hg with rfl | rfl <;> exact hL.is _ (by decide) (by decide) rfl
  have f5 : F (ad g) 4 = some (ad (g + 5)) := by rw [show g + 5 = g + 1 + 4 by omega]; exact hL.gf g 4 hg (by decide)
  have i5 : ol_is ro (ad (g + 5)) (.inr (0, 240)) := by rcases ol_5060 hg with rfl | rfl <;> exact hL.is _ (by decide) (by decide) rfl
  have f6 : F (ad g) 5 = some (ad (g + 6)) := by rw [show g + 6 = g + 1 + 5 by omega]; exact hL.gf g 5 hg (by decide)
  have i6 : ol_is ro (ad (g + 6)) (.inr (0, 240)) := by rcases ol_5060 hg with rfl | rfl <;> exact hL.is _ (by decide) (by decide) rfl
  have f7 : F (ad g) 6 = some (ad (g + 7)) := by rw [show g + 7 = g + 1 + 6 by omega]; exact hL.gf g 6 hg (by decide)
  have i7 : ol_is ro (ad (g + 7)) (.inr (1, 240)) := by rcases ol_5060 hg with rfl | rfl <;> exact hL.is _ (by decide) (by decide) rfl
  have d_0_5 : ad g ≠ ad (g + 5) := by rcases ol_5060 hg with rfl | rfl <;> exact hL.ne (by decide) (by decide) (by decide)
  have d_0_6 : ad g ≠ ad (g + 6) := by rcases ol_5060 hg with rfl | rfl <;> exact hL.ne (by decide) (by decide) (by decide)
  have d_0_7 : ad g ≠ ad (g + 7) := by rcases ol_5060 hg with rfl | rfl <;> exact hL.ne (by decide) (by decide) (by decide)
  have hM2 := hB.2.2.2.1
  have ea : I (ad g) 10 = nI (b.2.1 0 1) := h.2.2.2.1.2.1
  refine ol_aload_n C dX4_addArc_0 rfl rfl (by first | exact ol_isq_r _ | exact ol_isq_q _ | exact ol_isq_n) ?_
  refine ol_gR (k := 4) C (by assumption) rfl rfl wd_44 (.inl rfl) dX4_addArc_1 ?_
  refine ol_rf (by assumption) ?_
  refine ol_aload_n C dX4_addArc_4 rfl rfl (by first | exact ol_isq_r _ | exact ol_isq_q _ | exact ol_isq_n) ?_
  refine ol_gI (k := 10) C (by assumption) rfl rfl wd_54 (.inl rfl) dX4_addArc_5 ?_
  refine ol_ti ea ?_
  refine ol_aload_n C dX4_addArc_8 rfl rfl (by first | exact ol_isq_r _ | exact ol_isq_q _ | exact ol_isq_n) ?_
  refine ol_aload_n C dX4_addArc_9 rfl rfl (by first | exact ol_isq_r _ | exact ol_isq_q _ | exact ol_isq_n) ?_
  refine ol_callV C (g_find l D cA hV hg h hB hu hs) hxg.1 hxg.2 rfl wd_344 wd_2 wd_489 wd_342 wd_343 mh_X4_findNode (by decide) rfl (by first | exact Nat.le_of_ble_eq_true rfl | simp [ol_rfc, Value.category]) dX4_addArc_10 (fun v_10 ro_10 I_10 F_10 hh_10 => ?_)
  obtain ⟨rfl, rfl, hI2⟩ := hh_10
  obtain ⟨-, -, f3⟩ := sp_find_1 b u
  have ea2 : I_10 (ad g) 10 = nI (b.2.1 0 1) := by have := hI2.2.2.2.1.2.1; rw [f3] at this; exact this
  have f5b : F_10 (ad g) 4 = some (ad (g + 5)) := by rw [show g + 5 = g + 1 + 4 by omega]; exact hI2.1.gf g 4 hg (by decide)
  have f6b : F_10 (ad g) 5 = some (ad (g + 6)) := by rw [show g + 6 = g + 1 + 5 by omega]; exact hI2.1.gf g 5 hg (by decide)
  have f7b : F_10 (ad g) 6 = some (ad (g + 7)) := by rw [show g + 7 = g + 1 + 6 by omega]; exact hI2.1.gf g 6 hg (by decide)
  refine ol_st (st' := .int _ :: _) rfl ?_
  refine ol_sI (b.2.1 0 1) C (by assumption) rfl (by omega) (by decide) dX4_addArc_13 ?_
  refine ol_aload_n C dX4_addArc_14 rfl rfl (by first | exact ol_isq_r _ | exact ol_isq_q _ | exact ol_isq_n) ?_
  refine ol_gR (k := 5) C (by assumption) rfl rfl wd_46 (.inl rfl) dX4_addArc_15 ?_
  refine ol_rf (by assumption) ?_
  refine ol_aload_n C dX4_addArc_18 rfl rfl (by first | exact ol_isq_r _ | exact ol_isq_q _ | exact ol_isq_n) ?_
  refine ol_gI (k := 10) C (by assumption) rfl rfl wd_54 (.inl rfl) dX4_addArc_19 ?_
  rw [ol_u2_a _ _ d_0_5]
  refine ol_ti ea2 ?_
  refine ol_iload_n C dX4_addArc_22 rfl rfl ?_
  refine ol_sI (b.2.1 0 1) C (by assumption) rfl (by omega) (by decide) dX4_addArc_23 ?_
  refine ol_aload_n C dX4_addArc_24 rfl rfl (by first | exact ol_isq_r _ | exact ol_isq_q _ | exact ol_isq_n) ?_
  refine ol_gR (k := 6) C (by assumption) rfl rfl wd_48 (.inl rfl) dX4_addArc_25 ?_
  refine ol_rf (by assumption) ?_
  refine ol_aload_n C dX4_addArc_28 rfl rfl (by first | exact ol_isq_r _ | exact ol_isq_q _ | exact ol_isq_n) ?_
  refine ol_gI (k := 10) C (by assumption) rfl rfl wd_54 (.inl rfl) dX4_addArc_29 ?_
  rw [ol_u2_a _ _ d_0_6, ol_u2_a _ _ d_0_5]
  refine ol_ti ea2 ?_
  refine ol_iload_n C dX4_addArc_32 rfl rfl ?_
  refine ol_sZ (b.2.1 0 1) C (by assumption) rfl (by omega) (by decide) hbr dX4_addArc_33 ?_
  refine ol_aload_n C dX4_addArc_34 rfl rfl (by first | exact ol_isq_r _ | exact ol_isq_q _ | exact ol_isq_n) ?_
  refine ol_dup C dX4_addArc_35 (by first | rfl | exact ol_rfc _) ?_
  refine ol_gI (k := 10) C (by assumption) rfl rfl wd_54 (.inl rfl) dX4_addArc_36 ?_
  rw [ol_u2_a _ _ d_0_7, ol_u2_a _ _ d_0_6, ol_u2_a _ _ d_0_5]
  refine ol_ti ea2 ?_
  refine ol_iconst (v := 1) C dX4_addArc_39 (by decide) ?_
  refine ol_iadd C dX4_addArc_40 ?_
  refine ol_ti (nI_1 _) ?_
  refine ol_pI (k := 10) C (by assumption) rfl rfl wd_54 (.inl rfl) rfl rfl dX4_addArc_41 ?_
  exact ol_vret C hret hlk (by decide) (by decide) dX4_addArc_44 ⟨rfl, rfl, hI2.arc w br hV hg⟩

set_option maxRecDepth 100000 in
set_option maxHeartbeats 4000000 in
theorem m_failed (l : Launch) (D : va_G) (cA : Nat → ClassId) {ro : Nat → Nat} {I : Nat → Nat → Int32} {F : Nat → Nat → Option Nat} {ad : Nat → Nat} (hL : ol_L ro F ad) {a u : Nat} (ht : ol_th ro a) (hu : I a 0 = nI u) (z : Int32) : ol_M l D cA yX10_failed cX10_failed 3 (some FieldType.boolean) (ol_r 1 0 0) [.ref (ad 1), .ref a, .int z] ro I F (ol_ei 0 ro (ol_xr I ad (nI u) (-1000009) z) F) := by
  refine ol_M.of (by decide +kernel) (Nat.le_of_ble_eq_true rfl) (by simp [Value.category, ol_rfc]) ?_
  intro p e s m args below meth c C hret hlk hin
  have hx1 : ol_is ro (ad 1) (.inl 0) := hL.is 1 (by decide) (by decide) rfl
  refine ol_aload_n C dX10_failed_0 rfl rfl (by first | exact ol_isq_r _ | exact ol_isq_q _ | exact ol_isq_n) ?_
  refine ol_aload_n C dX10_failed_1 rfl rfl (by first | exact ol_isq_r _ | exact ol_isq_q _ | exact ol_isq_n) ?_
  refine ol_tgI C (by assumption) ol_tf0 wd_137 (.inl rfl) dX10_failed_2 ?_
  refine ol_ti hu ?_
  refine ol_ldc (v := (-1000009)) C wd_85 dX10_failed_5 ?_
  refine ol_iload_n C dX10_failed_7 rfl rfl ?_
  refine ol_callV C (m_endLoad l D cA hx1 (nI u) (-1000009) z) hx1.1 hx1.2 rfl wd_332 wd_1 wd_329 wd_331 wq_3 mh_X10_endLoad (by decide) rfl (by first | exact Nat.le_of_ble_eq_true rfl | simp [ol_rfc, Value.category]) dX10_failed_8 (ol_xv ?_)
  refine ol_iconst (v := 0) C dX10_failed_11 (by decide) ?_
  exact ol_iret C hret hlk rfl (by decide) (by decide) dX10_failed_12 ⟨rfl, rfl, rfl, rfl⟩

/-- what came out of following a link, as the class holds it -/
def ol_x2 (ro : Nat → Nat) (ad ta pa : Nat → Nat) (g n : Nat) (So : Nat → Nat) (T : Nat → Nat → Int32) (P : Nat → Nat → Option Nat) (I0 : Nat → Nat → Int32) (F0 : Nat → Nat → Option Nat) (R : ol_B × Option (Nat × Int32)) (kc kf : Nat) (w : Int32) (I' : Nat → Nat → Int32) (F' : Nat → Nat → Option Nat) : Prop :=
  (R.2 = none ∧ w = 1 ∧ ol_XI ro ad ta pa g n So T P I0 F0 I' F' R.1 kc kf) ∨ ∃ (u : Nat) (z : Int32) (I2 : Nat → Nat → Int32), R.2 = some (u, z) ∧ (z = 1 ∨ z = 3) ∧ w = 0 ∧ ol_XI ro ad ta pa g n So T P I0 F0 I2 F' R.1 kc kf ∧ I' = ol_xr I2 ad (nI u) (-1000009) z
theorem ol_x2.w {ro : Nat → Nat} {ad ta pa : Nat → Nat} {g n : Nat} {So : Nat → Nat} {T : Nat → Nat → Int32} {P : Nat → Nat → Option Nat} {I0 : Nat → Nat → Int32} {F0 : Nat → Nat → Option Nat} {R : ol_B × Option (Nat × Int32)} {kc kf : Nat} {w : Int32} {I' : Nat → Nat → Int32} {F' : Nat → Nat → Option Nat} (h : ol_x2 ro ad ta pa g n So T P I0 F0 R kc kf w I' F') : narrow .boolean (.int w) = .int w := by
  rcases h with ⟨-, rfl, -⟩ | ⟨u, z, I2, -, -, rfl, -⟩ <;> rfl
section OLFO
variable {So : Nat → Nat} {T : Nat → Nat → Int32} {P : Nat → Nat → Option Nat} {t u e : Nat} {b : ol_B}
theorem sp_fo_1 (hs : So u = 2) (he : sp_en P u t = none) : sp_fo So T P t (some u) b = (sp_ask b u, some (u, 1)) := by
  show (ol_if (So u = 2) _ _ : ol_B × Option (Nat × Int32)) = _
  rw [ol_if_t hs, he]
theorem sp_fo_3 (hs : So u = 2) (he : sp_en P u t = some e) (hse : So e = 2) : sp_fo So T P t (some u) b = (sp_ask b u, some (u, 3)) := by
  show (ol_if (So u = 2) _ _ : ol_B × Option (Nat × Int32)) = _
  rw [ol_if_t hs, he]
  exact ol_if_t hse
theorem sp_fo_b (hs : So u = 2) (he : sp_en P u t = some e) (hse : ¬ So e = 2) : sp_fo So T P t (some u) b = (sp_arc (sp_ask (sp_ask b u) u) e (T 2 u) 1, none) := by
  show (ol_if (So u = 2) _ _ : ol_B × Option (Nat × Int32)) = _
  rw [ol_if_t hs, he]
  exact ol_if_f hse
theorem sp_fo_n (hs : ¬ So u = 2) : sp_fo So T P t (some u) b = (sp_arc b u 1 0, none) := by
  show (ol_if (So u = 2) _ _ : ol_B × Option (Nat × Int32)) = _
  rw [ol_if_f hs]
end OLFO

set_option maxRecDepth 100000 in
set_option maxHeartbeats 4000000 in
theorem m_cross (l : Launch) (D : va_G) (cA : Nat → ClassId) {ro : Nat → Nat} {I : Nat → Nat → Int32} {F : Nat → Nat → Option Nat} {ad ta pa : Nat → Nat} {g n : Nat} {So : Nat → Nat} {T : Nat → Nat → Int32} {P : Nat → Nat → Option Nat} (hV : ol_V n So T P) (hg : g ∈ [50, 60]) {I0 : Nat → Nat → Int32} {F0 : Nat → Nat → Option Nat} {b : ol_B} {kc kf M t : Nat} (h : ol_XI ro ad ta pa g n So T P I0 F0 I F b kc kf) (hB : ol_BW n So b M) (hM : M < 240) (ht : t < n) {u : Nat} (hu : u < n) (hs : So u = 2) : ol_M l D cA yX10_cross cX10_cross 5 (some FieldType.boolean) (ol_r 2 0 0) [.ref (ad 1), .ref (ta t), .ref (ta u)] ro I F (fun v ro' I' F' => ro' = ro ∧ ∃ w, v = some (.int w) ∧ ol_x2 ro ad ta pa g n So T P I0 F0 (sp_fo So T P t (some u) b) kc kf w I' F') := by
  refine ol_M.of (by decide +kernel) (Nat.le_of_ble_eq_true rfl) (by simp [Value.category, ol_rfc]) ?_
  intro p e s m args below meth c C hret hlk hin
  have hL := h.1
  have hb := h.2.1
  have hx1 : ol_is ro (ad 1) (.inl 0) := hL.is 1 (by decide) (by decide) rfl
  have hxg : ol_is ro (ad g) (.inl 8) := by rcases ol_5060 hg with rfl | rfl <;> exact hL.is _ (by decide) (by decide) rfl
  have hxu := (h.2.2.1.2.1 u hu).2
  have hthu := hxu.th (hV.2 u hu).1
  have hib : ol_is ro (ta u) (.inl 3) := ol_is_of (r := 4) (by rw [hxu.1, hs]) (by decide) rfl
  have een : ol_if (F (pa u) 0 = some (ta t)) (F (pa u) 1) (F (pa u) 0) = (sp_en P u t).map ta := by
    have p0 : F (pa u) 0 = (P 1 u).map ta := hxu.2.2.2.2.2.2.2.2.2 0 (by decide)
    have p1 : F (pa u) 1 = (P 2 u).map ta := hxu.2.2.2.2.2.2.2.2.2 1 (by decide)
    rw [p0, p1]
    unfold sp_en
    by_cases q : P 1 u = some t
    · rw [ol_if_t q, ol_if_t (by rw [q]; rfl)]
    · rw [ol_if_f q, ol_if_f (fun z => q ?_)]
      obtain ⟨v, h1, h2⟩ := ol_map_some z
      rw [h1, h.2.2.1.inj hV.1 ht ((hV.2 u hu).2.2 1 (by decide) v h1) h2]
  refine ol_aload_n C dX10_cross_0 rfl rfl (by first | exact ol_isq_r _ | exact ol_isq_q _ | exact ol_isq_n) ?_
  refine ol_dup C dX10_cross_1 (by first | rfl | exact ol_rfc _) ?_
  refine ol_tgI C hthu ol_tf6 wd_168 (.inr wd_169) dX10_cross_2 ?_
  refine ol_ti (h.asked hu) ?_
  refine ol_iconst (v := 1) C dX10_cross_5 (by decide) ?_
  refine ol_iadd C dX10_cross_6 ?_
  refine ol_tpI C hthu ol_tf6 wd_168 (.inr wd_169) rfl rfl dX10_cross_7 ?_
  have hI1 := h.ask hV hg hu
  refine ol_aload_n C dX10_cross_10 rfl rfl (by first | exact ol_isq_r _ | exact ol_isq_q _ | exact ol_isq_n) ?_
  refine ol_aload_n C dX10_cross_11 rfl rfl (by first | exact ol_isq_r _ | exact ol_isq_q _ | exact ol_isq_n) ?_
  refine ol_callV C (x_otherEnd l D cA hthu hxu.2.2.2.2.2.2.1 hxu.ps (b := ta t)) hib.1 hib.2 rfl wd_481 wd_8 wd_478 wd_479 wd_480 mh_X0_otherEnd (by decide) rfl (by first | exact Nat.le_of_ble_eq_true rfl | simp [ol_rfc, Value.category]) dX10_cross_12 (ol_xq ?_)
  rw [een]
  refine ol_astore_n C dX10_cross_15 rfl (by decide) (by first | exact ol_isq_r _ | exact ol_isq_q _ | exact ol_isq_n) ?_
  refine ol_aload_n C dX10_cross_16 rfl rfl (by first | exact ol_isq_r _ | exact ol_isq_q _ | exact ol_isq_n) ?_
  refine ol_ifnonnull (tgt := 27) C dX10_cross_17 (by decide) (fun a_17 c_17 => ?_) (fun c_17 => ?_)
  · obtain ⟨e2, he, rfl⟩ := ol_map_some c_17
    have hen := sp_en_lt hV hu he
    have hxe := (h.2.2.1.2.1 e2 hen).2
    have hthe := hxe.th (hV.2 e2 hen).1
    refine ol_aload_n C dX10_cross_27 rfl rfl (by first | exact ol_isq_r _ | exact ol_isq_q _ | exact ol_isq_n) ?_
    refine ol_rf c_17 ?_
    refine ol_in_Node C hthe wd_327 dX10_cross_28 ?_
    refine ol_if_eq (tgt := 43) C dX10_cross_31 (by decide) (fun c_31 => ?_) (fun c_31 => ?_)
    · have hse : So e2 = 2 := by have := Classical.not_not.mp (ol_p_0.mp c_31); rw [hxe.1] at this; omega
      refine ol_aload_n C dX10_cross_43 rfl rfl (by first | exact ol_isq_r _ | exact ol_isq_q _ | exact ol_isq_n) ?_
      refine ol_aload_n C dX10_cross_44 rfl rfl (by first | exact ol_isq_r _ | exact ol_isq_q _ | exact ol_isq_n) ?_
      refine ol_iconst (v := 3) C dX10_cross_45 (by decide) ?_
      refine ol_callV C (m_failed l D cA hL hthu (hI1.2.2.1.2.1 u hu).2.2.1 3) hx1.1 hx1.2 rfl wd_365 wd_1 wd_362 wd_364 wq_6 mh_X10_failed (by decide) rfl (by first | exact Nat.le_of_ble_eq_true rfl | simp [ol_rfc, Value.category]) dX10_cross_46 (ol_xi ?_)
      exact ol_iret C hret hlk rfl (by decide) (by decide) dX10_cross_49 ⟨rfl, _, rfl, Or.inr ⟨u, 3, _, by rw [sp_fo_3 hs he hse], Or.inr rfl, rfl, by rw [sp_fo_3 hs he hse]; exact hI1, rfl⟩⟩
    · have hne := ol_p_n.mp c_31
      have hse : ¬ So e2 = 2 := fun q => hne (by rw [hxe.1, q])
      refine ol_aload_n C dX10_cross_34 rfl rfl (by first | exact ol_isq_r _ | exact ol_isq_q _ | exact ol_isq_n) ?_
      refine ol_rf c_17 ?_
      refine ol_ca_Node C hthe hne wd_327 dX10_cross_35 ?_
      refine ol_astore C dX10_cross_38 (by decide) (by first | exact ol_isq_r _ | exact ol_isq_q _ | exact ol_isq_n) ?_
      refine ol_goto (tgt := 50) C dX10_cross_40 (by decide) ?_
      refine ol_aload_n C dX10_cross_50 rfl rfl (by first | exact ol_isq_r _ | exact ol_isq_q _ | exact ol_isq_n) ?_
      refine ol_dup C dX10_cross_51 (by first | rfl | exact ol_rfc _) ?_
      refine ol_tgI C hthu ol_tf6 wd_168 (.inr wd_169) dX10_cross_52 ?_
      refine ol_ti (hI1.asked hu) ?_
      refine ol_iconst (v := 1) C dX10_cross_55 (by decide) ?_
      refine ol_iadd C dX10_cross_56 ?_
      refine ol_tpI C hthu ol_tf6 wd_168 (.inr wd_169) rfl rfl dX10_cross_57 ?_
      have hI2 := hI1.ask hV hg hu
      refine ol_aload_n C dX10_cross_60 rfl rfl (by first | exact ol_isq_r _ | exact ol_isq_q _ | exact ol_isq_n) ?_
      refine ol_gR (k := 3) C (by assumption) rfl rfl wd_89 (.inl rfl) dX10_cross_61 ?_
      refine ol_rf (by assumption) ?_
      refine ol_aload C dX10_cross_64 rfl (by first | exact ol_isq_r _ | exact ol_isq_q _ | exact ol_isq_n) ?_
      refine ol_aload_n C dX10_cross_66 rfl rfl (by first | exact ol_isq_r _ | exact ol_isq_q _ | exact ol_isq_n) ?_
      refine ol_callU (owner := "ObjectLoads$Thing") (x := ⟨"ObjectLoads$Bridge", "toldValue", "()I"⟩) C (x_toldValue9 l D cA hthu) hib.1 hib.2 rfl wd_413 wd_5 wd_482 wd_483 (by decide) wd_412 wd_484 mhu_ObjectLoads_Bridge_toldValue (by decide) rfl (by first | exact Nat.le_of_ble_eq_true rfl | simp [ol_rfc, Value.category]) dX10_cross_67 (ol_xi ?_)
      refine ol_ti (y := T 2 u) ((hI2.2.2.1.2.1 u hu).2.2.2.2.1) ?_
      refine ol_iconst (v := 1) C dX10_cross_70 (by decide) ?_
      refine ol_callV C (g_addArc l D cA hV hg hI2 ((hB.ask u).ask u) hM hen hse (T 2 u) 1 rfl) hxg.1 hxg.2 rfl wd_488 wd_2 wd_485 wd_486 wd_487 mh_X4_addArc (by decide) rfl (by first | exact Nat.le_of_ble_eq_true rfl | simp [ol_rfc, Value.category]) dX10_cross_71 (fun v_71 ro_71 I_71 F_71 hh_71 => ?_)
      obtain ⟨rfl, rfl, hI3⟩ := hh_71
      refine ol_st (st' := _) (List.nil_append _) ?_
      refine ol_iconst (v := 1) C dX10_cross_74 (by decide) ?_
      exact ol_iret C hret hlk rfl (by decide) (by decide) dX10_cross_75 ⟨rfl, _, rfl, Or.inl ⟨by rw [sp_fo_b hs he hse], rfl, by rw [sp_fo_b hs he hse]; exact hI3⟩⟩
  · have he : sp_en P u t = none := by
      cases hq : sp_en P u t with
      | none => rfl
      | some z => rw [hq] at c_17; cases c_17
    refine ol_aload_n C dX10_cross_20 rfl rfl (by first | exact ol_isq_r _ | exact ol_isq_q _ | exact ol_isq_n) ?_
    refine ol_aload_n C dX10_cross_21 rfl rfl (by first | exact ol_isq_r _ | exact ol_isq_q _ | exact ol_isq_n) ?_
    refine ol_iconst (v := 1) C dX10_cross_22 (by decide) ?_
    refine ol_callV C (m_failed l D cA hL hthu (hI1.2.2.1.2.1 u hu).2.2.1 1) hx1.1 hx1.2 rfl wd_365 wd_1 wd_362 wd_364 wq_6 mh_X10_failed (by decide) rfl (by first | exact Nat.le_of_ble_eq_true rfl | simp [ol_rfc, Value.category]) dX10_cross_23 (ol_xi ?_)
    exact ol_iret C hret hlk rfl (by decide) (by decide) dX10_cross_26 ⟨rfl, _, rfl, Or.inr ⟨u, 1, _, by rw [sp_fo_1 hs he], Or.inl rfl, rfl, by rw [sp_fo_1 hs he]; exact hI1, rfl⟩⟩

set_option maxRecDepth 100000 in
set_option maxHeartbeats 4000000 in
theorem m_follow (l : Launch) (D : va_G) (cA : Nat → ClassId) {ro : Nat → Nat} {I : Nat → Nat → Int32} {F : Nat → Nat → Option Nat} {ad ta pa : Nat → Nat} {g n : Nat} {So : Nat → Nat} {T : Nat → Nat → Int32} {P : Nat → Nat → Option Nat} (hV : ol_V n So T P) (hg : g ∈ [50, 60]) {I0 : Nat → Nat → Int32} {F0 : Nat → Nat → Option Nat} {b : ol_B} {kc kf M t : Nat} (h : ol_XI ro ad ta pa g n So T P I0 F0 I F b kc kf) (hB : ol_BW n So b M) (hM : M < 240) (ht : t < n) {q : Option Nat} (hq : ∀ u, q = some u → u < n) : ol_M l D cA yX10_follow cX10_follow 4 (some FieldType.boolean) (ol_r 3 0 0) [.ref (ad 1), .ref (ta t), va_rf (q.map ta)] ro I F (fun v ro' I' F' => ro' = ro ∧ ∃ w, v = some (.int w) ∧ ol_x2 ro ad ta pa g n So T P I0 F0 (sp_fo So T P t q b) kc kf w I' F') := by
  refine ol_M.of (by decide +kernel) (Nat.le_of_ble_eq_true rfl) (by intro v hv; simp only [List.mem_cons, List.not_mem_nil, or_false] at hv; rcases hv with rfl | rfl | rfl; rfl; rfl; exact ol_rfc _) ?_
  intro p e s m args below meth c C hret hlk hin
  have hL := h.1
  have hb := h.2.1
  have hx1 : ol_is ro (ad 1) (.inl 0) := hL.is 1 (by decide) (by decide) rfl
  have hxg : ol_is ro (ad g) (.inl 8) := by rcases ol_5060 hg with rfl | rfl <;> exact hL.is _ (by decide) (by decide) rfl
  have hqt : ∀ a, q.map ta = some a → ol_th ro a := h.2.2.1.rth (hV.up4 b.1) hq
  refine ol_aload_n C dX10_follow_0 rfl rfl (by first | exact ol_isq_r _ | exact ol_isq_q _ | exact ol_isq_n) ?_
  refine ol_inq_Bridge C hqt wd_185 dX10_follow_1 ?_
  refine ol_if_eq (tgt := 19) C dX10_follow_4 (by decide) (fun c_4 => ?_) (fun c_4 => ?_)
  · have hnb := ol_p_0.mp c_4
    refine ol_aload_n C dX10_follow_19 rfl rfl (by first | exact ol_isq_r _ | exact ol_isq_q _ | exact ol_isq_n) ?_
    refine ol_inq_Node C hqt wd_327 dX10_follow_20 ?_
    refine ol_if_eq (tgt := 44) C dX10_follow_23 (by decide) (fun c_23 => ?_) (fun c_23 => ?_)
    · have hq0 : q = none := by
        cases hqq : q with
        | none => rfl
        | some u =>
          exfalso
          by_cases z : ro (ta u) = 4
          · exact hnb ⟨ta u, by rw [hqq]; rfl, z⟩
          · exact (ol_p_0.mp c_23) ⟨ta u, by rw [hqq]; rfl, z⟩
      refine ol_aload_n C dX10_follow_44 rfl rfl (by first | exact ol_isq_r _ | exact ol_isq_q _ | exact ol_isq_n) ?_
      refine ol_gR (k := 3) C (by assumption) rfl rfl wd_89 (.inl rfl) dX10_follow_45 ?_
      refine ol_rf (by assumption) ?_
      refine ol_dup C dX10_follow_48 (by first | rfl | exact ol_rfc _) ?_
      refine ol_gI (k := 11) C (by assumption) rfl rfl wd_57 (.inl rfl) dX10_follow_49 ?_
      refine ol_ti (show I (ad g) 11 = nI (b.2.1 0 2) from h.2.2.2.1.2.2.1) ?_
      refine ol_iconst (v := 1) C dX10_follow_52 (by decide) ?_
      refine ol_iadd C dX10_follow_53 ?_
      refine ol_ti (nI_1 _) ?_
      refine ol_pI (k := 11) C (by assumption) rfl rfl wd_57 (.inl rfl) rfl rfl dX10_follow_54 ?_
      refine ol_iconst (v := 1) C dX10_follow_57 (by decide) ?_
      exact ol_iret C hret hlk rfl (by decide) (by decide) dX10_follow_58 ⟨rfl, _, rfl, Or.inl ⟨by rw [hq0]; rfl, rfl, by rw [hq0]; exact h.hole hV hg⟩⟩
    · obtain ⟨a2, ha, ha4⟩ := ol_p_n.mp c_23
      obtain ⟨u, hqu, rfl⟩ := ol_map_some ha
      have hu := hq u hqu
      have hxu := (h.2.2.1.2.1 u hu).2
      have hthu := hxu.th (hV.2 u hu).1
      have hs : ¬ So u = 2 := fun z => ha4 (by rw [hxu.1, z])
      refine ol_aload_n C dX10_follow_26 rfl rfl (by first | exact ol_isq_r _ | exact ol_isq_q _ | exact ol_isq_n) ?_
      refine ol_rf ha ?_
      refine ol_ca_Node C hthu ha4 wd_327 dX10_follow_27 ?_
      refine ol_astore_n C dX10_follow_30 rfl (by decide) (by first | exact ol_isq_r _ | exact ol_isq_q _ | exact ol_isq_n) ?_
      refine ol_aload_n C dX10_follow_31 rfl rfl (by first | exact ol_isq_r _ | exact ol_isq_q _ | exact ol_isq_n) ?_
      refine ol_gR (k := 3) C (by assumption) rfl rfl wd_89 (.inl rfl) dX10_follow_32 ?_
      refine ol_rf (by assumption) ?_
      refine ol_aload_n C dX10_follow_35 rfl rfl (by first | exact ol_isq_r _ | exact ol_isq_q _ | exact ol_isq_n) ?_
      refine ol_iconst (v := 1) C dX10_follow_36 (by decide) ?_
      refine ol_iconst (v := 0) C dX10_follow_37 (by decide) ?_
      refine ol_callV C (g_addArc l D cA hV hg h hB hM hu hs 1 0 rfl) hxg.1 hxg.2 rfl wd_488 wd_2 wd_485 wd_486 wd_487 mh_X4_addArc (by decide) rfl (by first | exact Nat.le_of_ble_eq_true rfl | simp [ol_rfc, Value.category]) dX10_follow_38 (fun v_38 ro_38 I_38 F_38 hh_38 => ?_)
      obtain ⟨rfl, rfl, hI3⟩ := hh_38
      refine ol_st (st' := _) (List.nil_append _) ?_
      refine ol_goto (tgt := 57) C dX10_follow_41 (by decide) ?_
      refine ol_iconst (v := 1) C dX10_follow_57 (by decide) ?_
      exact ol_iret C hret hlk rfl (by decide) (by decide) dX10_follow_58 ⟨rfl, _, rfl, Or.inl ⟨by rw [hqu, sp_fo_n hs], rfl, by rw [hqu, sp_fo_n hs]; exact hI3⟩⟩
  · obtain ⟨a2, ha, ha4⟩ := ol_p_n.mp c_4
    obtain ⟨u, hqu, rfl⟩ := ol_map_some ha
    have hu := hq u hqu
    have hxu := (h.2.2.1.2.1 u hu).2
    have hthu := hxu.th (hV.2 u hu).1
    have hs : So u = 2 := by rw [hxu.1] at ha4; omega
    refine ol_aload_n C dX10_follow_7 rfl rfl (by first | exact ol_isq_r _ | exact ol_isq_q _ | exact ol_isq_n) ?_
    refine ol_rf ha ?_
    refine ol_ca_Bridge C hthu ha4 wd_185 dX10_follow_8 ?_
    refine ol_astore_n C dX10_follow_11 rfl (by decide) (by first | exact ol_isq_r _ | exact ol_isq_q _ | exact ol_isq_n) ?_
    refine ol_aload_n C dX10_follow_12 rfl rfl (by first | exact ol_isq_r _ | exact ol_isq_q _ | exact ol_isq_n) ?_
    refine ol_aload_n C dX10_follow_13 rfl rfl (by first | exact ol_isq_r _ | exact ol_isq_q _ | exact ol_isq_n) ?_
    refine ol_aload_n C dX10_follow_14 rfl rfl (by first | exact ol_isq_r _ | exact ol_isq_q _ | exact ol_isq_n) ?_
    refine ol_callV C (m_cross l D cA hV hg h hB hM ht hu hs) hx1.1 hx1.2 rfl wd_477 wd_1 wd_474 wd_476 wq_10 mh_X10_cross (by decide) rfl (by first | exact Nat.le_of_ble_eq_true rfl | simp [ol_rfc, Value.category]) dX10_follow_15 (fun v_15 ro_15 I_15 F_15 hh_15 => ?_)
    obtain ⟨rfl, w, rfl, hw⟩ := hh_15
    refine ol_st (st' := .int _ :: _) rfl ?_
    exact ol_iret C hret hlk hw.w (by decide) (by decide) dX10_follow_18 ⟨rfl, w, rfl, by rw [hqu]; exact hw⟩
