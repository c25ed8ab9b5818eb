set_option maxRecDepth 100000 in
set_option maxHeartbeats 4000000 in
theorem x_copy (l : Launch) (D : va_G) (cA : Nat → ClassId) {ro : Nat → Nat} {I : Nat → Nat → Int32} {F : Nat → Nat → Option Nat} {ad ta pa : Nat → Nat} {n : Nat} {So : Nat → Nat} {T : Nat → Nat → Int32} {P : Nat → Nat → Option Nat} (hV : ol_V n So T P) (hL : ol_L ro F ad) (hT : ol_XT ro I F ad ta pa n So T P) (t a u b k : Int32) : ol_M l D cA yX10_copy cX10_copy 9 (some FieldType.int) (ol_r 2 0 0) [.ref (ad 1), .int t, .int a, .int u, .int b, .int k] ro I F (fun v ro' I' F' => ro' = ro ∧ I' = I ∧ ((¬ (ol_k n t ∧ ol_k n u) ∧ v = some (.int (-1000001)) ∧ F' = F) ∨ ((ol_k n t ∧ ol_k n u) ∧ ¬ (ol_stt a k ∧ ol_stt b k) ∧ v = some (.int (-1000012)) ∧ F' = F) ∨ ∃ (jt ju ka kb kn m : Nat), t = nI jt ∧ u = nI ju ∧ jt < n ∧ ju < n ∧ a = nI ka ∧ b = nI kb ∧ k = nI kn ∧ ka + kn ≤ 6 ∧ kb + kn ≤ 6 ∧ ol_cp So P jt ka ju kn m ∧ v = some (.int (ol_if (m < kn) (-1000015) 1)) ∧ (∀ c2, c2 ≠ pa ju → F' c2 = F c2) ∧ (∀ i, i < m → F' (pa ju) (kb + i) = F (pa jt) (ka + i)) ∧ ∀ j, (∀ i, i < m → j ≠ kb + i) → F' (pa ju) j = F (pa ju) j)) := by
  refine ol_M.of (by decide +kernel) (Nat.le_of_ble_eq_true rfl) (by simp [Value.category, ol_rfc]) ?_
  intro p e s m args below meth c C hret hlk hin
  have h40 := hV.1
  have hx1 : ol_is ro (ad 1) (.inl 0) := hL.is 1 (by decide) (by decide) rfl
  have hx11 : ol_is ro (ad 11) (.inr (2, 40)) := hL.is 11 (by decide) (by decide) rfl
  refine ol_aload_n C dX10_copy_0 rfl rfl (by first | exact ol_isq_r _ | exact ol_isq_q _ | exact ol_isq_n) ?_
  refine ol_iload_n C dX10_copy_1 rfl rfl ?_
  refine ol_callV C (m_known l D cA hx1 hL.2.1 hx11 t hT.1 h40) hx1.1 hx1.2 rfl wd_276 wd_1 wd_273 wd_275 wq_0 mh_X10_known (by decide) rfl (by first | exact Nat.le_of_ble_eq_true rfl | simp [ol_rfc, Value.category]) dX10_copy_2 (ol_xq ?_)
  rw [show ol_if (¬ t < 0 ∧ ¬ I (ad 1) 1 ≤ t) (F (ad 11) t.toNatClampNeg) none = (ol_d n t).map ta from ol_kd hT h40]
  refine ol_astore C dX10_copy_5 (by decide) (by first | exact ol_isq_r _ | exact ol_isq_q _ | exact ol_isq_n) ?_
  refine ol_aload_n C dX10_copy_7 rfl rfl (by first | exact ol_isq_r _ | exact ol_isq_q _ | exact ol_isq_n) ?_
  refine ol_iload_n C dX10_copy_8 rfl rfl ?_
  refine ol_callV C (m_known l D cA hx1 hL.2.1 hx11 u hT.1 h40) hx1.1 hx1.2 rfl wd_276 wd_1 wd_273 wd_275 wq_0 mh_X10_known (by decide) rfl (by first | exact Nat.le_of_ble_eq_true rfl | simp [ol_rfc, Value.category]) dX10_copy_9 (ol_xq ?_)
  rw [show ol_if (¬ u < 0 ∧ ¬ I (ad 1) 1 ≤ u) (F (ad 11) u.toNatClampNeg) none = (ol_d n u).map ta from ol_kd hT h40]
  refine ol_astore C dX10_copy_12 (by decide) (by first | exact ol_isq_r _ | exact ol_isq_q _ | exact ol_isq_n) ?_
  refine ol_aload C dX10_copy_14 rfl (by first | exact ol_isq_r _ | exact ol_isq_q _ | exact ol_isq_n) ?_
  refine ol_ifnull (tgt := 24) C dX10_copy_16 (by decide) (fun c_16 => ?_) (fun a_16 c_16 => ?_)
  · have hK := ol_kd_f c_16
    refine ol_ldc (v := (-1000001)) C wd_281 dX10_copy_24 ?_
    exact ol_iret C hret hlk rfl (by decide) (by decide) dX10_copy_26 ⟨rfl, rfl, Or.inl ⟨fun q => hK q.1, rfl, rfl⟩⟩
  · have hK := ol_kd_t c_16
    obtain ⟨jt, hjt, rfl, hjt31⟩ := ol_k_ix hK h40
    rw [ol_d_j hK hjt31] at c_16
    obtain rfl := Option.some.inj c_16
    have c_16b : (ol_d n (nI jt)).map ta = some (ta jt) := by rw [ol_d_j hK hjt31]; rfl
    have hxjt := (hT.2.1 jt hjt).2
    have htjt := hxjt.th (hV.2 jt hjt).1
    refine ol_aload C dX10_copy_19 rfl (by first | exact ol_isq_r _ | exact ol_isq_q _ | exact ol_isq_n) ?_
    refine ol_ifnonnull (tgt := 27) C dX10_copy_21 (by decide) (fun a_21 c_21 => ?_) (fun c_21 => ?_)
    · have hK2 := ol_kd_t c_21
      obtain ⟨ju, hju, rfl, hju31⟩ := ol_k_ix hK2 h40
      rw [ol_d_j hK2 hju31] at c_21
      obtain rfl := Option.some.inj c_21
      have c_21b : (ol_d n (nI ju)).map ta = some (ta ju) := by rw [ol_d_j hK2 hju31]; rfl
      have hxju := (hT.2.1 ju hju).2
      have htju := hxju.th (hV.2 ju hju).1
      refine ol_iload_n C dX10_copy_27 rfl rfl ?_
      refine ol_iload C dX10_copy_28 rfl ?_
      refine ol_callS C (m_isStretch l D cA a k) wd_314 wd_1 wd_312 wd_313 mh_X10_isStretch (by decide) rfl (by first | exact Nat.le_of_ble_eq_true rfl | simp [ol_rfc, Value.category]) dX10_copy_30 (ol_xi ?_)
      rw [show ol_p (¬ a < 0 ∧ ¬ k < 0 ∧ ¬ 6 < k ∧ ¬ 6 - k < a) = ol_p (ol_stt a k) from ol_p_c ol_stt_iff]
      refine ol_if_eq (tgt := 46) C dX10_copy_33 (by decide) (fun c_33 => ?_) (fun c_33 => ?_)
      · have hno : ¬ (ol_stt a k ∧ ol_stt b k) := fun q => ol_p_0.mp c_33 q.1
        refine ol_ldc (v := (-1000012)) C wd_315 dX10_copy_46 ?_
        exact ol_iret C hret hlk rfl (by decide) (by decide) dX10_copy_48 ⟨rfl, rfl, Or.inr (Or.inl ⟨⟨hK, hK2⟩, hno, rfl, rfl⟩)⟩
      · refine ol_iload C dX10_copy_36 rfl ?_
        refine ol_iload C dX10_copy_38 rfl ?_
        refine ol_callS C (m_isStretch l D cA b k) wd_314 wd_1 wd_312 wd_313 mh_X10_isStretch (by decide) rfl (by first | exact Nat.le_of_ble_eq_true rfl | simp [ol_rfc, Value.category]) dX10_copy_40 (ol_xi ?_)
        rw [show ol_p (¬ b < 0 ∧ ¬ k < 0 ∧ ¬ 6 < k ∧ ¬ 6 - k < b) = ol_p (ol_stt b k) from ol_p_c ol_stt_iff]
        refine ol_if_ne (tgt := 49) C dX10_copy_43 (by decide) (fun c_43 => ?_) (fun c_43 => ?_)
        · obtain ⟨ka, kn, rfl, rfl, h6⟩ := ol_p_n.mp c_33
          obtain ⟨kb, kn2, rfl, e2, h6b⟩ := ol_p_n.mp c_43
          obtain rfl := (nI_eq (a := kn) (b := kn2) (by omega) (by omega)).mp e2
          have hps := hxjt.ps
          have hpt := hxju.ps
          have hpl := hxjt.2.2.2.2.2.2.1
          have hpl2 := hxju.2.2.2.2.2.2.1
          have hpq : ∀ i, i < 6 → ∀ z, P (1 + i) jt = some z → z < n := fun i hi => (hV.2 jt hjt).2.2 (1 + i) (by omega)
          have epq : ∀ i, i < 6 → F (pa jt) i = (P (1 + i) jt).map ta := hxjt.2.2.2.2.2.2.2.2.2
          have hthp : ∀ i, i < 6 → ∀ z, F (pa jt) i = some z → ol_th ro z := fun i hi => by rw [epq i hi]; exact hT.rth hV (hpq i hi)
          refine ol_aload C dX10_copy_49 rfl (by first | exact ol_isq_r _ | exact ol_isq_q _ | exact ol_isq_n) ?_
          refine ol_rf c_21b ?_
          refine ol_in_Masked C htju wd_216 dX10_copy_51 ?_
          refine ol_if_eq (tgt := 71) C dX10_copy_54 (by decide) (fun c_54 => ?_) (fun c_54 => ?_)
          · have hmk : ¬ So ju = 4 := fun q => ol_p_0.mp c_54 (by rw [hxju.1, q])
            have hcp : ol_cp So P jt ka ju kn kn := ⟨Nat.le_refl _, fun i _ q => hmk q.1, fun q => absurd q (Nat.lt_irrefl _)⟩
            refine ol_iload C dX10_copy_71 rfl ?_
            refine ol_istore C dX10_copy_73 (by decide) ?_
            have hmn := hcp.1
            refine ol_aload C dX10_copy_75 rfl (by first | exact ol_isq_r _ | exact ol_isq_q _ | exact ol_isq_n) ?_
            refine ol_rf c_16b ?_
            refine ol_tgR C htjt ol_tf1 wd_145 (.inl rfl) dX10_copy_77 ?_
            refine ol_rf hpl ?_
            refine ol_iload_n C dX10_copy_80 rfl rfl ?_
            refine ol_aload C dX10_copy_81 rfl (by first | exact ol_isq_r _ | exact ol_isq_q _ | exact ol_isq_n) ?_
            refine ol_rf c_21b ?_
            refine ol_tgR C htju ol_tf1 wd_145 (.inl rfl) dX10_copy_83 ?_
            refine ol_rf hpl2 ?_
            refine ol_iload C dX10_copy_86 rfl ?_
            refine ol_iload C dX10_copy_88 rfl ?_
            refine ol_callS C (m_cps l D cA hps hpt hthp (kn := kn) (by omega) (by omega)) wd_321 wd_1 wd_319 wd_320 mh_X10_copyStretch (by decide) rfl (by first | exact Nat.le_of_ble_eq_true rfl | simp [ol_rfc, Value.category]) dX10_copy_90 (fun v_90 ro_90 I_90 F_90 hh_90 => ?_)
            obtain ⟨rfl, rfl, rfl, g1, g2, g3⟩ := hh_90
            refine ol_st (st' := _) (List.nil_append _) ?_
            refine ol_iload C dX10_copy_93 rfl ?_
            refine ol_iload C dX10_copy_95 rfl ?_
            refine ol_icmp_ge (tgt := 105) C dX10_copy_97 (by decide) (fun c_97 => ?_) (fun c_97 => ?_)
            · have hge : kn ≤ kn := (nI_leI (by omega) (by omega)).mp c_97
              refine ol_iconst (v := 1) C dX10_copy_105 (by decide) ?_
              exact ol_iret C hret hlk rfl (by decide) (by decide) dX10_copy_106 ⟨rfl, rfl, Or.inr (Or.inr ⟨jt, ju, ka, kb, kn, kn, rfl, rfl, hjt, hju, rfl, rfl, rfl, h6, h6b, hcp, by rw [ol_if_f (Nat.not_lt.mpr hge)], g1, g2, g3⟩)⟩
            · have hlt : kn < kn := Nat.lt_of_not_le (fun q => c_97 ((nI_leI (by omega) (by omega)).mpr q))
              refine ol_ldc (v := (-1000015)) C wd_322 dX10_copy_100 ?_
              refine ol_goto (tgt := 106) C dX10_copy_102 (by decide) ?_
              exact ol_iret C hret hlk rfl (by decide) (by decide) dX10_copy_106 ⟨rfl, rfl, Or.inr (Or.inr ⟨jt, ju, ka, kb, kn, kn, rfl, rfl, hjt, hju, rfl, rfl, rfl, h6, h6b, hcp, by rw [ol_if_t hlt], g1, g2, g3⟩)⟩
          · have hmk : So ju = 4 := by have := ol_p_n.mp c_54; rw [hxju.1] at this; omega
            refine ol_aload C dX10_copy_57 rfl (by first | exact ol_isq_r _ | exact ol_isq_q _ | exact ol_isq_n) ?_
            refine ol_rf c_16b ?_
            refine ol_tgR C htjt ol_tf1 wd_145 (.inl rfl) dX10_copy_59 ?_
            refine ol_rf hpl ?_
            refine ol_iload_n C dX10_copy_62 rfl rfl ?_
            refine ol_iload C dX10_copy_63 rfl ?_
            refine ol_callS C (m_cut l D cA hps hthp h6) wd_318 wd_1 wd_316 wd_317 mh_X10_countUpToBridge (by decide) rfl (by first | exact Nat.le_of_ble_eq_true rfl | simp [ol_rfc, Value.category]) dX10_copy_65 (fun v_65 ro_65 I_65 F_65 hh_65 => ?_)
            obtain ⟨rfl, rfl, rfl, m, hcu, rfl⟩ := hh_65
            have hcp : ol_cp So P jt ka ju kn m := by
              have hbq : ∀ i, i < kn → (ol_bq ro_65 (F_65 (pa jt) (ka + i)) ↔ ol_br So (P (1 + (ka + i)) jt)) := fun i hi => by rw [epq (ka + i) (by omega)]; exact hT.rbr (hpq (ka + i) (by omega))
              have hmn := hcu.1
              exact ⟨hcu.1, fun i hi q => hcu.2.1 i hi ((hbq i (by omega)).mpr q.2), fun q => ⟨hmk, (hbq m q).mp (hcu.2.2 q)⟩⟩
            refine ol_st (st' := .int _ :: _) rfl ?_
            refine ol_goto (tgt := 73) C dX10_copy_68 (by decide) ?_
            refine ol_istore C dX10_copy_73 (by decide) ?_
            have hmn := hcp.1
            refine ol_aload C dX10_copy_75 rfl (by first | exact ol_isq_r _ | exact ol_isq_q _ | exact ol_isq_n) ?_
            refine ol_rf c_16b ?_
            refine ol_tgR C htjt ol_tf1 wd_145 (.inl rfl) dX10_copy_77 ?_
            refine ol_rf hpl ?_
            refine ol_iload_n C dX10_copy_80 rfl rfl ?_
            refine ol_aload C dX10_copy_81 rfl (by first | exact ol_isq_r _ | exact ol_isq_q _ | exact ol_isq_n) ?_
            refine ol_rf c_21b ?_
            refine ol_tgR C htju ol_tf1 wd_145 (.inl rfl) dX10_copy_83 ?_
            refine ol_rf hpl2 ?_
            refine ol_iload C dX10_copy_86 rfl ?_
            refine ol_iload C dX10_copy_88 rfl ?_
            refine ol_callS C (m_cps l D cA hps hpt hthp (kn := m) (by omega) (by omega)) wd_321 wd_1 wd_319 wd_320 mh_X10_copyStretch (by decide) rfl (by first | exact Nat.le_of_ble_eq_true rfl | simp [ol_rfc, Value.category]) dX10_copy_90 (fun v_90 ro_90 I_90 F_90 hh_90 => ?_)
            obtain ⟨rfl, rfl, rfl, g1, g2, g3⟩ := hh_90
            refine ol_st (st' := _) (List.nil_append _) ?_
            refine ol_iload C dX10_copy_93 rfl ?_
            refine ol_iload C dX10_copy_95 rfl ?_
            refine ol_icmp_ge (tgt := 105) C dX10_copy_97 (by decide) (fun c_97 => ?_) (fun c_97 => ?_)
            · have hge : kn ≤ m := (nI_leI (by omega) (by omega)).mp c_97
              refine ol_iconst (v := 1) C dX10_copy_105 (by decide) ?_
              exact ol_iret C hret hlk rfl (by decide) (by decide) dX10_copy_106 ⟨rfl, rfl, Or.inr (Or.inr ⟨jt, ju, ka, kb, kn, m, rfl, rfl, hjt, hju, rfl, rfl, rfl, h6, h6b, hcp, by rw [ol_if_f (Nat.not_lt.mpr hge)], g1, g2, g3⟩)⟩
            · have hlt : m < kn := Nat.lt_of_not_le (fun q => c_97 ((nI_leI (by omega) (by omega)).mpr q))
              refine ol_ldc (v := (-1000015)) C wd_322 dX10_copy_100 ?_
              refine ol_goto (tgt := 106) C dX10_copy_102 (by decide) ?_
              exact ol_iret C hret hlk rfl (by decide) (by decide) dX10_copy_106 ⟨rfl, rfl, Or.inr (Or.inr ⟨jt, ju, ka, kb, kn, m, rfl, rfl, hjt, hju, rfl, rfl, rfl, h6, h6b, hcp, by rw [ol_if_t hlt], g1, g2, g3⟩)⟩
        · have hno : ¬ (ol_stt a k ∧ ol_stt b k) := fun q => ol_p_0.mp (Classical.not_not.mp (fun z => z c_43)) q.2
          refine ol_ldc (v := (-1000012)) C wd_315 dX10_copy_46 ?_
          exact ol_iret C hret hlk rfl (by decide) (by decide) dX10_copy_48 ⟨rfl, rfl, Or.inr (Or.inl ⟨⟨hK, hK2⟩, hno, rfl, rfl⟩)⟩
    · have hK2 := ol_kd_f c_21
      refine ol_ldc (v := (-1000001)) C wd_281 dX10_copy_24 ?_
      exact ol_iret C hret hlk rfl (by decide) (by decide) dX10_copy_26 ⟨rfl, rfl, Or.inl ⟨fun q => hK2 q.2, rfl, rfl⟩⟩

/-- what a thing's constructor leaves: a its address, q that of its places -/
def ol_nt (I : Nat → Nat → Int32) (a q : Nat) (n k v : Int32) : Nat → Nat → Int32 := ol_u2 (ol_u2 (ol_u2 (ol_u2 (ol_u2 (va_up I q (fun _ => 0)) a 5 0) a 6 0) a 0 n) a 2 k) a 3 v
def ol_nf (F : Nat → Nat → Option Nat) (a q : Nat) : Nat → Nat → Option Nat := ol_u2 (ol_u2 (va_up F q (fun _ => none)) a 1 (some q)) a 4 none
theorem ol_th_up {ro : Nat → Nat} {a q r : Nat} (ht : ol_th ro a) (hq : ro q = 0) : ol_th (va_up ro q r) a := by
  have : a ≠ q := fun e => by have := ht.1; rw [e, hq] at this; omega
  unfold ol_th
  rw [va_up_ne _ _ this]
  exact ht

set_option maxRecDepth 100000 in
set_option maxHeartbeats 4000000 in
theorem x_init9 (l : Launch) (D : va_G) (cA : Nat → ClassId) {ro : Nat → Nat} {I : Nat → Nat → Int32} {F : Nat → Nat → Option Nat} {a : Nat} (ht : ol_th ro a) (n k v2 : Int32) : ol_M l D cA yX9_init cX9_init 4 none (ol_r 1 1 6) [.ref a, .int n, .int k, .int v2] ro I F (fun v ro' I' F' => v = none ∧ ∃ q, ro q = 0 ∧ ro' = va_up ro q 12 ∧ I' = ol_nt I a q n k v2 ∧ F' = ol_nf F a q) := by
  refine ol_M.of (by decide +kernel) (Nat.le_of_ble_eq_true rfl) (by simp [Value.category, ol_rfc]) ?_
  intro p e s m args below meth c C hret hlk hin
  refine ol_aload_n C dX9_init_0 rfl rfl (by first | exact ol_isq_r _ | exact ol_isq_q _ | exact ol_isq_n) ?_
  refine ol_oinit C wd_131 dX9_init_1 (by decide) (by decide) (by first | exact Nat.le_of_ble_eq_true rfl | simp [ol_rfc, Value.category]) ?_
  refine ol_aload_n C dX9_init_4 rfl rfl (by first | exact ol_isq_r _ | exact ol_isq_q _ | exact ol_isq_n) ?_
  refine ol_bipush (v := 6) C dX9_init_5 (by decide) ?_
  refine ol_newQ (t := 2) (r := 12) C rfl rfl wd_132 (by decide) rfl (by decide) (by decide) (by decide) (by decide) (by decide) (by decide) dX9_init_7 (fun a_7 z_7 => ?_)
  have ht2 : ol_th (va_up ro a_7 12) a := ol_th_up ht z_7
  refine ol_tpRF (r := some _) C rfl ht2 ol_tf1 wd_138 (.inl rfl) hin rfl (ol_nara _ _) dX9_init_10 ?_
  refine ol_aload_n C dX9_init_13 rfl rfl (by first | exact ol_isq_r _ | exact ol_isq_q _ | exact ol_isq_n) ?_
  refine ol_null C dX9_init_14 ?_
  refine ol_tpR (r := none) C rfl ht2 ol_tf4 wd_156 (.inl rfl) (ol_narq _ _) dX9_init_15 ?_
  refine ol_aload_n C dX9_init_18 rfl rfl (by first | exact ol_isq_r _ | exact ol_isq_q _ | exact ol_isq_n) ?_
  refine ol_iconst (v := 0) C dX9_init_19 (by decide) ?_
  refine ol_tpI C ht2 ol_tf5 wd_160 (.inl rfl) rfl rfl dX9_init_20 ?_
  refine ol_aload_n C dX9_init_23 rfl rfl (by first | exact ol_isq_r _ | exact ol_isq_q _ | exact ol_isq_n) ?_
  refine ol_iconst (v := 0) C dX9_init_24 (by decide) ?_
  refine ol_tpI C ht2 ol_tf6 wd_164 (.inl rfl) rfl rfl dX9_init_25 ?_
  refine ol_aload_n C dX9_init_28 rfl rfl (by first | exact ol_isq_r _ | exact ol_isq_q _ | exact ol_isq_n) ?_
  refine ol_iload_n C dX9_init_29 rfl rfl ?_
  refine ol_tpIF C ht2 ol_tf0 wd_133 (.inl rfl) hin rfl rfl rfl dX9_init_30 ?_
  refine ol_aload_n C dX9_init_33 rfl rfl (by first | exact ol_isq_r _ | exact ol_isq_q _ | exact ol_isq_n) ?_
  refine ol_iload_n C dX9_init_34 rfl rfl ?_
  refine ol_tpI C ht2 ol_tf2 wd_146 (.inl rfl) rfl rfl dX9_init_35 ?_
  refine ol_aload_n C dX9_init_38 rfl rfl (by first | exact ol_isq_r _ | exact ol_isq_q _ | exact ol_isq_n) ?_
  refine ol_iload_n C dX9_init_39 rfl rfl ?_
  refine ol_tpI C ht2 ol_tf3 wd_148 (.inl rfl) rfl rfl dX9_init_40 ?_
  exact ol_vret C hret hlk (by decide) (by decide) dX9_init_43 ⟨rfl, a_7, z_7, rfl, rfl, rfl⟩

set_option maxRecDepth 100000 in
set_option maxHeartbeats 4000000 in
theorem x_init6 (l : Launch) (D : va_G) (cA : Nat → ClassId) {ro : Nat → Nat} {I : Nat → Nat → Int32} {F : Nat → Nat → Option Nat} {a : Nat} (ht : ol_th ro a) (n k v2 : Int32) : ol_M l D cA yX6_init cX6_init 4 none (ol_r 2 1 6) [.ref a, .int n, .int k, .int v2] ro I F (fun v ro' I' F' => v = none ∧ ∃ q, ro q = 0 ∧ ro' = va_up ro q 12 ∧ I' = ol_nt I a q n k v2 ∧ F' = ol_nf F a q) := by
  refine ol_M.of (by decide +kernel) (Nat.le_of_ble_eq_true rfl) (by simp [Value.category, ol_rfc]) ?_
  intro p e s m args below meth c C hret hlk hin
  refine ol_aload_n C dX6_init_0 rfl rfl (by first | exact ol_isq_r _ | exact ol_isq_q _ | exact ol_isq_n) ?_
  refine ol_iload_n C dX6_init_1 rfl rfl ?_
  refine ol_iload_n C dX6_init_2 rfl rfl ?_
  refine ol_iload_n C dX6_init_3 rfl rfl ?_
  refine ol_callI C (x_init9 l D cA ht n k v2) wd_130 wd_5 wd_128 wd_129 rfl mh_X9_init (by decide) rfl (by first | exact Nat.le_of_ble_eq_true rfl | simp [ol_rfc, Value.category]) dX6_init_4 (fun v_4 ro_4 I_4 F_4 hh_4 => ?_)
  obtain ⟨rfl, q, hq, rfl, rfl, rfl⟩ := hh_4
  refine ol_st (st' := _) (List.nil_append _) ?_
  exact ol_vret C hret hlk (by decide) (by decide) dX6_init_7 ⟨rfl, q, hq, rfl, rfl, rfl⟩

set_option maxRecDepth 100000 in
set_option maxHeartbeats 4000000 in
theorem x_init0 (l : Launch) (D : va_G) (cA : Nat → ClassId) {ro : Nat → Nat} {I : Nat → Nat → Int32} {F : Nat → Nat → Option Nat} {a : Nat} (ht : ol_th ro a) (n k v2 : Int32) : ol_M l D cA yX0_init cX0_init 4 none (ol_r 2 1 6) [.ref a, .int n, .int k, .int v2] ro I F (fun v ro' I' F' => v = none ∧ ∃ q, ro q = 0 ∧ ro' = va_up ro q 12 ∧ I' = ol_nt I a q n k v2 ∧ F' = ol_nf F a q) := by
  refine ol_M.of (by decide +kernel) (Nat.le_of_ble_eq_true rfl) (by simp [Value.category, ol_rfc]) ?_
  intro p e s m args below meth c C hret hlk hin
  refine ol_aload_n C dX0_init_0 rfl rfl (by first | exact ol_isq_r _ | exact ol_isq_q _ | exact ol_isq_n) ?_
  refine ol_iload_n C dX0_init_1 rfl rfl ?_
  refine ol_iload_n C dX0_init_2 rfl rfl ?_
  refine ol_iload_n C dX0_init_3 rfl rfl ?_
  refine ol_callI C (x_init9 l D cA ht n k v2) wd_130 wd_5 wd_190 wd_129 rfl mh_X9_init (by decide) rfl (by first | exact Nat.le_of_ble_eq_true rfl | simp [ol_rfc, Value.category]) dX0_init_4 (fun v_4 ro_4 I_4 F_4 hh_4 => ?_)
  obtain ⟨rfl, q, hq, rfl, rfl, rfl⟩ := hh_4
  refine ol_st (st' := _) (List.nil_append _) ?_
  exact ol_vret C hret hlk (by decide) (by decide) dX0_init_7 ⟨rfl, q, hq, rfl, rfl, rfl⟩

set_option maxRecDepth 100000 in
set_option maxHeartbeats 4000000 in
theorem x_init7 (l : Launch) (D : va_G) (cA : Nat → ClassId) {ro : Nat → Nat} {I : Nat → Nat → Int32} {F : Nat → Nat → Option Nat} {a : Nat} (ht : ol_th ro a) (n k v2 : Int32) : ol_M l D cA yX7_init cX7_init 4 none (ol_r 3 1 6) [.ref a, .int n, .int k, .int v2] ro I F (fun v ro' I' F' => v = none ∧ ∃ q, ro q = 0 ∧ ro' = va_up ro q 12 ∧ I' = ol_nt I a q n k v2 ∧ F' = ol_nf F a q) := by
  refine ol_M.of (by decide +kernel) (Nat.le_of_ble_eq_true rfl) (by simp [Value.category, ol_rfc]) ?_
  intro p e s m args below meth c C hret hlk hin
  refine ol_aload_n C dX7_init_0 rfl rfl (by first | exact ol_isq_r _ | exact ol_isq_q _ | exact ol_isq_n) ?_
  refine ol_iload_n C dX7_init_1 rfl rfl ?_
  refine ol_iload_n C dX7_init_2 rfl rfl ?_
  refine ol_iload_n C dX7_init_3 rfl rfl ?_
  refine ol_callI C (x_init6 l D cA ht n k v2) wd_127 wd_6 wd_207 wd_126 rfl mh_X6_init (by decide) rfl (by first | exact Nat.le_of_ble_eq_true rfl | simp [ol_rfc, Value.category]) dX7_init_4 (fun v_4 ro_4 I_4 F_4 hh_4 => ?_)
  obtain ⟨rfl, q, hq, rfl, rfl, rfl⟩ := hh_4
  refine ol_st (st' := _) (List.nil_append _) ?_
  exact ol_vret C hret hlk (by decide) (by decide) dX7_init_7 ⟨rfl, q, hq, rfl, rfl, rfl⟩

set_option maxRecDepth 100000 in
set_option maxHeartbeats 4000000 in
theorem x_init2 (l : Launch) (D : va_G) (cA : Nat → ClassId) {ro : Nat → Nat} {I : Nat → Nat → Int32} {F : Nat → Nat → Option Nat} {a : Nat} (ht : ol_th ro a) (n k v2 : Int32) : ol_M l D cA yX2_init cX2_init 4 none (ol_r 3 1 6) [.ref a, .int n, .int k, .int v2] ro I F (fun v ro' I' F' => v = none ∧ ∃ q, ro q = 0 ∧ ro' = va_up ro q 12 ∧ I' = ol_nt I a q n k v2 ∧ F' = ol_nf F a q) := by
  refine ol_M.of (by decide +kernel) (Nat.le_of_ble_eq_true rfl) (by simp [Value.category, ol_rfc]) ?_
  intro p e s m args below meth c C hret hlk hin
  refine ol_aload_n C dX2_init_0 rfl rfl (by first | exact ol_isq_r _ | exact ol_isq_q _ | exact ol_isq_n) ?_
  refine ol_iload_n C dX2_init_1 rfl rfl ?_
  refine ol_iload_n C dX2_init_2 rfl rfl ?_
  refine ol_iload_n C dX2_init_3 rfl rfl ?_
  refine ol_callI C (x_init6 l D cA ht n k v2) wd_127 wd_6 wd_125 wd_126 rfl mh_X6_init (by decide) rfl (by first | exact Nat.le_of_ble_eq_true rfl | simp [ol_rfc, Value.category]) dX2_init_4 (fun v_4 ro_4 I_4 F_4 hh_4 => ?_)
  obtain ⟨rfl, q, hq, rfl, rfl, rfl⟩ := hh_4
  refine ol_st (st' := _) (List.nil_append _) ?_
  exact ol_vret C hret hlk (by decide) (by decide) dX2_init_7 ⟨rfl, q, hq, rfl, rfl, rfl⟩

set_option maxRecDepth 100000 in
set_option maxHeartbeats 4000000 in
theorem x_init1 (l : Launch) (D : va_G) (cA : Nat → ClassId) {ro : Nat → Nat} {I : Nat → Nat → Int32} {F : Nat → Nat → Option Nat} {a : Nat} (ht : ol_th ro a) (n k v2 : Int32) : ol_M l D cA yX1_init cX1_init 4 none (ol_r 4 1 6) [.ref a, .int n, .int k, .int v2] ro I F (fun v ro' I' F' => v = none ∧ ∃ q, ro q = 0 ∧ ro' = va_up ro q 12 ∧ I' = ol_nt I a q n k v2 ∧ F' = ol_nf F a q) := by
  refine ol_M.of (by decide +kernel) (Nat.le_of_ble_eq_true rfl) (by simp [Value.category, ol_rfc]) ?_
  intro p e s m args below meth c C hret hlk hin
  refine ol_aload_n C dX1_init_0 rfl rfl (by first | exact ol_isq_r _ | exact ol_isq_q _ | exact ol_isq_n) ?_
  refine ol_iload_n C dX1_init_1 rfl rfl ?_
  refine ol_iload_n C dX1_init_2 rfl rfl ?_
  refine ol_iload_n C dX1_init_3 rfl rfl ?_
  refine ol_callI C (x_init7 l D cA ht n k v2) wd_206 wd_9 wd_204 wd_205 rfl mh_X7_init (by decide) rfl (by first | exact Nat.le_of_ble_eq_true rfl | simp [ol_rfc, Value.category]) dX1_init_4 (fun v_4 ro_4 I_4 F_4 hh_4 => ?_)
  obtain ⟨rfl, q, hq, rfl, rfl, rfl⟩ := hh_4
  refine ol_st (st' := _) (List.nil_append _) ?_
  exact ol_vret C hret hlk (by decide) (by decide) dX1_init_7 ⟨rfl, q, hq, rfl, rfl, rfl⟩

set_option maxRecDepth 100000 in
set_option maxHeartbeats 4000000 in
theorem x_init3 (l : Launch) (D : va_G) (cA : Nat → ClassId) {ro : Nat → Nat} {I : Nat → Nat → Int32} {F : Nat → Nat → Option Nat} {a : Nat} (ht : ol_th ro a) (n k v2 : Int32) : ol_M l D cA yX3_init cX3_init 4 none (ol_r 4 1 6) [.ref a, .int n, .int k, .int v2] ro I F (fun v ro' I' F' => v = none ∧ ∃ q, ro q = 0 ∧ ro' = va_up ro q 12 ∧ I' = ol_nt I a q n k v2 ∧ F' = ol_nf F a q) := by
  refine ol_M.of (by decide +kernel) (Nat.le_of_ble_eq_true rfl) (by simp [Value.category, ol_rfc]) ?_
  intro p e s m args below meth c C hret hlk hin
  refine ol_aload_n C dX3_init_0 rfl rfl (by first | exact ol_isq_r _ | exact ol_isq_q _ | exact ol_isq_n) ?_
  refine ol_iload_n C dX3_init_1 rfl rfl ?_
  refine ol_iload_n C dX3_init_2 rfl rfl ?_
  refine ol_iload_n C dX3_init_3 rfl rfl ?_
  refine ol_callI C (x_init7 l D cA ht n k v2) wd_206 wd_9 wd_249 wd_205 rfl mh_X7_init (by decide) rfl (by first | exact Nat.le_of_ble_eq_true rfl | simp [ol_rfc, Value.category]) dX3_init_4 (fun v_4 ro_4 I_4 F_4 hh_4 => ?_)
  obtain ⟨rfl, q, hq, rfl, rfl, rfl⟩ := hh_4
  refine ol_st (st' := _) (List.nil_append _) ?_
  exact ol_vret C hret hlk (by decide) (by decide) dX3_init_7 ⟨rfl, q, hq, rfl, rfl, rfl⟩

set_option maxRecDepth 100000 in
set_option maxHeartbeats 4000000 in
theorem x_init5 (l : Launch) (D : va_G) (cA : Nat → ClassId) {ro : Nat → Nat} {I : Nat → Nat → Int32} {F : Nat → Nat → Option Nat} {a : Nat} (ht : ol_th ro a) (n k v2 : Int32) : ol_M l D cA yX5_init cX5_init 4 none (ol_r 4 1 6) [.ref a, .int n, .int k, .int v2] ro I F (fun v ro' I' F' => v = none ∧ ∃ q, ro q = 0 ∧ ro' = va_up ro q 12 ∧ I' = ol_nt I a q n k v2 ∧ F' = ol_nf F a q) := by
  refine ol_M.of (by decide +kernel) (Nat.le_of_ble_eq_true rfl) (by simp [Value.category, ol_rfc]) ?_
  intro p e s m args below meth c C hret hlk hin
  refine ol_aload_n C dX5_init_0 rfl rfl (by first | exact ol_isq_r _ | exact ol_isq_q _ | exact ol_isq_n) ?_
  refine ol_iload_n C dX5_init_1 rfl rfl ?_
  refine ol_iload_n C dX5_init_2 rfl rfl ?_
  refine ol_iload_n C dX5_init_3 rfl rfl ?_
  refine ol_callI C (x_init2 l D cA ht n k v2) wd_124 wd_7 wd_221 wd_123 rfl mh_X2_init (by decide) rfl (by first | exact Nat.le_of_ble_eq_true rfl | simp [ol_rfc, Value.category]) dX5_init_4 (fun v_4 ro_4 I_4 F_4 hh_4 => ?_)
  obtain ⟨rfl, q, hq, rfl, rfl, rfl⟩ := hh_4
  refine ol_st (st' := _) (List.nil_append _) ?_
  exact ol_vret C hret hlk (by decide) (by decide) dX5_init_7 ⟨rfl, q, hq, rfl, rfl, rfl⟩

set_option maxRecDepth 100000 in
set_option maxHeartbeats 4000000 in
theorem x_init8 (l : Launch) (D : va_G) (cA : Nat → ClassId) {ro : Nat → Nat} {I : Nat → Nat → Int32} {F : Nat → Nat → Option Nat} {a : Nat} (ht : ol_th ro a) (n k v2 : Int32) : ol_M l D cA yX8_init cX8_init 4 none (ol_r 4 1 6) [.ref a, .int n, .int k, .int v2] ro I F (fun v ro' I' F' => v = none ∧ ∃ q, ro q = 0 ∧ ro' = va_up ro q 12 ∧ I' = ol_nt I a q n k v2 ∧ F' = ol_nf F a q) := by
  refine ol_M.of (by decide +kernel) (Nat.le_of_ble_eq_true rfl) (by simp [Value.category, ol_rfc]) ?_
  intro p e s m args below meth c C hret hlk hin
  refine ol_aload_n C dX8_init_0 rfl rfl (by first | exact ol_isq_r _ | exact ol_isq_q _ | exact ol_isq_n) ?_
  refine ol_iload_n C dX8_init_1 rfl rfl ?_
  refine ol_iload_n C dX8_init_2 rfl rfl ?_
  refine ol_iload_n C dX8_init_3 rfl rfl ?_
  refine ol_callI C (x_init2 l D cA ht n k v2) wd_124 wd_7 wd_235 wd_123 rfl mh_X2_init (by decide) rfl (by first | exact Nat.le_of_ble_eq_true rfl | simp [ol_rfc, Value.category]) dX8_init_4 (fun v_4 ro_4 I_4 F_4 hh_4 => ?_)
  obtain ⟨rfl, q, hq, rfl, rfl, rfl⟩ := hh_4
  refine ol_st (st' := _) (List.nil_append _) ?_
  exact ol_vret C hret hlk (by decide) (by decide) dX8_init_7 ⟨rfl, q, hq, rfl, rfl, rfl⟩

set_option maxRecDepth 100000 in
set_option maxHeartbeats 4000000 in
theorem x_newThing (l : Launch) (D : va_G) (cA : Nat → ClassId) {ro : Nat → Nat} {I : Nat → Nat → Int32} {F : Nat → Nat → Option Nat} (s2 n k v2 : Int32) (hs : ol_k 7 s2) : ol_M l D cA yX10_newThing cX10_newThing 4 (some (FieldType.object "ObjectLoads$Thing")) (ol_r 5 2 13) [.int s2, .int n, .int k, .int v2] ro I F (fun v ro' I' F' => ∃ a q, ro a = 0 ∧ ro q = 0 ∧ a ≠ q ∧ v = some (va_rf (some a)) ∧ ro' = va_up (va_up ro a (s2.toNatClampNeg + 2)) q 12 ∧ I' = ol_nt (va_up I a (fun _ => 0)) a q n k v2 ∧ F' = ol_nf (va_up F a (fun _ => none)) a q) := by
  refine ol_M.of (by decide +kernel) (Nat.le_of_ble_eq_true rfl) (by simp [Value.category, ol_rfc]) ?_
  intro p e s m args below meth c C hret hlk hin
  refine ol_iload_n C dX10_newThing_0 rfl rfl ?_
  by_cases s_1_1 : s2 = 1
  · subst s_1_1
    refine ol_table_in (tgt := 40) C dX10_newThing_1 (by decide) (by decide) rfl (by decide) ?_
    refine ol_new (ci := 2) (r := 3) C rfl rfl (by decide) wd_120 wd_121 wd_7 (by decide) (by decide) dX10_newThing_40 (fun a_40 z_40 => ?_)
    have ht : ol_th (va_up ro a_40 3) a_40 := by unfold ol_th; rw [va_up_self]; decide
    refine ol_dup C dX10_newThing_43 (by first | rfl | exact ol_rfc _) ?_
    refine ol_iload_n C dX10_newThing_44 rfl rfl ?_
    refine ol_iload_n C dX10_newThing_45 rfl rfl ?_
    refine ol_iload_n C dX10_newThing_46 rfl rfl ?_
    refine ol_callI C (x_init2 l D cA ht n k v2) wd_124 wd_7 wd_122 wd_123 rfl mh_X2_init (by decide) rfl (by first | exact Nat.le_of_ble_eq_true rfl | simp [ol_rfc, Value.category]) dX10_newThing_47 (fun v_47 ro_47 I_47 F_47 hh_47 => ?_)
    obtain ⟨rfl, q, hq, rfl, rfl, rfl⟩ := hh_47
    have hne : q ≠ a_40 := fun e => by rw [e, va_up_self] at hq; exact absurd hq (by decide)
    rw [va_up_ne _ _ hne] at hq
    refine ol_st (st' := _) (List.nil_append _) ?_
    exact ol_aret (r := some _) C rfl hret (Or.inl ⟨_, rfl⟩) hlk (by decide) (by decide) dX10_newThing_50 ⟨a_40, q, z_40, hq, Ne.symm hne, rfl, rfl, rfl, rfl⟩
  by_cases s_1_2 : s2 = 2
  · subst s_1_2
    refine ol_table_in (tgt := 51) C dX10_newThing_1 (by decide) (by decide) rfl (by decide) ?_
    refine ol_new (ci := 3) (r := 4) C rfl rfl (by decide) wd_185 wd_186 wd_8 (by decide) (by decide) dX10_newThing_51 (fun a_51 z_51 => ?_)
    have ht : ol_th (va_up ro a_51 4) a_51 := by unfold ol_th; rw [va_up_self]; decide
    refine ol_dup C dX10_newThing_54 (by first | rfl | exact ol_rfc _) ?_
    refine ol_iload_n C dX10_newThing_55 rfl rfl ?_
    refine ol_iload_n C dX10_newThing_56 rfl rfl ?_
    refine ol_iload_n C dX10_newThing_57 rfl rfl ?_
    refine ol_callI C (x_init0 l D cA ht n k v2) wd_189 wd_8 wd_187 wd_188 rfl mh_X0_init (by decide) rfl (by first | exact Nat.le_of_ble_eq_true rfl | simp [ol_rfc, Value.category]) dX10_newThing_58 (fun v_58 ro_58 I_58 F_58 hh_58 => ?_)
    obtain ⟨rfl, q, hq, rfl, rfl, rfl⟩ := hh_58
    have hne : q ≠ a_51 := fun e => by rw [e, va_up_self] at hq; exact absurd hq (by decide)
    rw [va_up_ne _ _ hne] at hq
    refine ol_st (st' := _) (List.nil_append _) ?_
    exact ol_aret (r := some _) C rfl hret (Or.inl ⟨_, rfl⟩) hlk (by decide) (by decide) dX10_newThing_61 ⟨a_51, q, z_51, hq, Ne.symm hne, rfl, rfl, rfl, rfl⟩
  by_cases s_1_3 : s2 = 3
  · subst s_1_3
    refine ol_table_in (tgt := 62) C dX10_newThing_1 (by decide) (by decide) rfl (by decide) ?_
    refine ol_new (ci := 4) (r := 5) C rfl rfl (by decide) wd_199 wd_200 wd_10 (by decide) (by decide) dX10_newThing_62 (fun a_62 z_62 => ?_)
    have ht : ol_th (va_up ro a_62 5) a_62 := by unfold ol_th; rw [va_up_self]; decide
    refine ol_dup C dX10_newThing_65 (by first | rfl | exact ol_rfc _) ?_
    refine ol_iload_n C dX10_newThing_66 rfl rfl ?_
    refine ol_iload_n C dX10_newThing_67 rfl rfl ?_
    refine ol_iload_n C dX10_newThing_68 rfl rfl ?_
    refine ol_callI C (x_init1 l D cA ht n k v2) wd_203 wd_10 wd_201 wd_202 rfl mh_X1_init (by decide) rfl (by first | exact Nat.le_of_ble_eq_true rfl | simp [ol_rfc, Value.category]) dX10_newThing_69 (fun v_69 ro_69 I_69 F_69 hh_69 => ?_)
    obtain ⟨rfl, q, hq, rfl, rfl, rfl⟩ := hh_69
    have hne : q ≠ a_62 := fun e => by rw [e, va_up_self] at hq; exact absurd hq (by decide)
    rw [va_up_ne _ _ hne] at hq
    refine ol_st (st' := _) (List.nil_append _) ?_
    exact ol_aret (r := some _) C rfl hret (Or.inl ⟨_, rfl⟩) hlk (by decide) (by decide) dX10_newThing_72 ⟨a_62, q, z_62, hq, Ne.symm hne, rfl, rfl, rfl, rfl⟩
  by_cases s_1_4 : s2 = 4
  · subst s_1_4
    refine ol_table_in (tgt := 73) C dX10_newThing_1 (by decide) (by decide) rfl (by decide) ?_
    refine ol_new (ci := 5) (r := 6) C rfl rfl (by decide) wd_216 wd_217 wd_11 (by decide) (by decide) dX10_newThing_73 (fun a_73 z_73 => ?_)
    have ht : ol_th (va_up ro a_73 6) a_73 := by unfold ol_th; rw [va_up_self]; decide
    refine ol_dup C dX10_newThing_76 (by first | rfl | exact ol_rfc _) ?_
    refine ol_iload_n C dX10_newThing_77 rfl rfl ?_
    refine ol_iload_n C dX10_newThing_78 rfl rfl ?_
    refine ol_iload_n C dX10_newThing_79 rfl rfl ?_
    refine ol_callI C (x_init5 l D cA ht n k v2) wd_220 wd_11 wd_218 wd_219 rfl mh_X5_init (by decide) rfl (by first | exact Nat.le_of_ble_eq_true rfl | simp [ol_rfc, Value.category]) dX10_newThing_80 (fun v_80 ro_80 I_80 F_80 hh_80 => ?_)
    obtain ⟨rfl, q, hq, rfl, rfl, rfl⟩ := hh_80
    have hne : q ≠ a_73 := fun e => by rw [e, va_up_self] at hq; exact absurd hq (by decide)
    rw [va_up_ne _ _ hne] at hq
    refine ol_st (st' := _) (List.nil_append _) ?_
    exact ol_aret (r := some _) C rfl hret (Or.inl ⟨_, rfl⟩) hlk (by decide) (by decide) dX10_newThing_83 ⟨a_73, q, z_73, hq, Ne.symm hne, rfl, rfl, rfl, rfl⟩
  by_cases s_1_5 : s2 = 5
  · subst s_1_5
    refine ol_table_in (tgt := 84) C dX10_newThing_1 (by decide) (by decide) rfl (by decide) ?_
    refine ol_new (ci := 6) (r := 7) C rfl rfl (by decide) wd_230 wd_231 wd_12 (by decide) (by decide) dX10_newThing_84 (fun a_84 z_84 => ?_)
    have ht : ol_th (va_up ro a_84 7) a_84 := by unfold ol_th; rw [va_up_self]; decide
    refine ol_dup C dX10_newThing_87 (by first | rfl | exact ol_rfc _) ?_
    refine ol_iload_n C dX10_newThing_88 rfl rfl ?_
    refine ol_iload_n C dX10_newThing_89 rfl rfl ?_
    refine ol_iload_n C dX10_newThing_90 rfl rfl ?_
    refine ol_callI C (x_init8 l D cA ht n k v2) wd_234 wd_12 wd_232 wd_233 rfl mh_X8_init (by decide) rfl (by first | exact Nat.le_of_ble_eq_true rfl | simp [ol_rfc, Value.category]) dX10_newThing_91 (fun v_91 ro_91 I_91 F_91 hh_91 => ?_)
    obtain ⟨rfl, q, hq, rfl, rfl, rfl⟩ := hh_91
    have hne : q ≠ a_84 := fun e => by rw [e, va_up_self] at hq; exact absurd hq (by decide)
    rw [va_up_ne _ _ hne] at hq
    refine ol_st (st' := _) (List.nil_append _) ?_
    exact ol_aret (r := some _) C rfl hret (Or.inl ⟨_, rfl⟩) hlk (by decide) (by decide) dX10_newThing_94 ⟨a_84, q, z_84, hq, Ne.symm hne, rfl, rfl, rfl, rfl⟩
  by_cases s_1_6 : s2 = 6
  · subst s_1_6
    refine ol_table_in (tgt := 95) C dX10_newThing_1 (by decide) (by decide) rfl (by decide) ?_
    refine ol_new (ci := 7) (r := 8) C rfl rfl (by decide) wd_244 wd_245 wd_13 (by decide) (by decide) dX10_newThing_95 (fun a_95 z_95 => ?_)
    have ht : ol_th (va_up ro a_95 8) a_95 := by unfold ol_th; rw [va_up_self]; decide
    refine ol_dup C dX10_newThing_98 (by first | rfl | exact ol_rfc _) ?_
    refine ol_iload_n C dX10_newThing_99 rfl rfl ?_
    refine ol_iload_n C dX10_newThing_100 rfl rfl ?_
    refine ol_iload_n C dX10_newThing_101 rfl rfl ?_
    refine ol_callI C (x_init3 l D cA ht n k v2) wd_248 wd_13 wd_246 wd_247 rfl mh_X3_init (by decide) rfl (by first | exact Nat.le_of_ble_eq_true rfl | simp [ol_rfc, Value.category]) dX10_newThing_102 (fun v_102 ro_102 I_102 F_102 hh_102 => ?_)
    obtain ⟨rfl, q, hq, rfl, rfl, rfl⟩ := hh_102
    have hne : q ≠ a_95 := fun e => by rw [e, va_up_self] at hq; exact absurd hq (by decide)
    rw [va_up_ne _ _ hne] at hq
    refine ol_st (st' := _) (List.nil_append _) ?_
    exact ol_aret (r := some _) C rfl hret (Or.inl ⟨_, rfl⟩) hlk (by decide) (by decide) dX10_newThing_105 ⟨a_95, q, z_95, hq, Ne.symm hne, rfl, rfl, rfl, rfl⟩
  refine ol_table_out (x := s2) (tgt := 106) C dX10_newThing_1 (by have := lv_neT s_1_1 (a := 1) rfl; have := lv_neT s_1_2 (a := 2) rfl; have := lv_neT s_1_3 (a := 3) rfl; have := lv_neT s_1_4 (a := 4) rfl; have := lv_neT s_1_5 (a := 5) rfl; have := lv_neT s_1_6 (a := 6) rfl; omega) (by decide) ?_
  refine ol_new (ci := 1) (r := 2) C rfl rfl (by decide) wd_258 wd_259 wd_9 (by decide) (by decide) dX10_newThing_106 (fun a_106 z_106 => ?_)
  have ht : ol_th (va_up ro a_106 2) a_106 := by unfold ol_th; rw [va_up_self]; decide
  refine ol_dup C dX10_newThing_109 (by first | rfl | exact ol_rfc _) ?_
  refine ol_iload_n C dX10_newThing_110 rfl rfl ?_
  refine ol_iload_n C dX10_newThing_111 rfl rfl ?_
  refine ol_iload_n C dX10_newThing_112 rfl rfl ?_
  refine ol_callI C (x_init7 l D cA ht n k v2) wd_206 wd_9 wd_260 wd_205 rfl mh_X7_init (by decide) rfl (by first | exact Nat.le_of_ble_eq_true rfl | simp [ol_rfc, Value.category]) dX10_newThing_113 (fun v_113 ro_113 I_113 F_113 hh_113 => ?_)
  obtain ⟨rfl, q, hq, rfl, rfl, rfl⟩ := hh_113
  have hne : q ≠ a_106 := fun e => by rw [e, va_up_self] at hq; exact absurd hq (by decide)
  rw [va_up_ne _ _ hne] at hq
  have hs0 : s2 = 0 := by
    obtain ⟨j, hj, rfl, -⟩ := ol_k_ix hs (by decide)
    have : j = 0 ∨ j = 1 ∨ j = 2 ∨ j = 3 ∨ j = 4 ∨ j = 5 ∨ j = 6 := by omega
    rcases this with rfl | rfl | rfl | rfl | rfl | rfl | rfl
    · rfl
    · exact absurd rfl s_1_1
    · exact absurd rfl s_1_2
    · exact absurd rfl s_1_3
    · exact absurd rfl s_1_4
    · exact absurd rfl s_1_5
    · exact absurd rfl s_1_6
  subst hs0
  refine ol_st (st' := _) (List.nil_append _) ?_
  exact ol_aret (r := some _) C rfl hret (Or.inl ⟨_, rfl⟩) hlk (by decide) (by decide) dX10_newThing_116 ⟨a_106, q, z_106, hq, Ne.symm hne, rfl, rfl, rfl, rfl⟩

set_option maxRecDepth 100000 in
set_option maxHeartbeats 4000000 in
theorem x_thing (l : Launch) (D : va_G) (cA : Nat → ClassId) {ro : Nat → Nat} {I : Nat → Nat → Int32} {F : Nat → Nat → Option Nat} {ad : Nat → Nat} (hL : ol_L ro F ad) {n : Nat} (hn : I (ad 1) 1 = nI n) (h40 : n ≤ 40) (s2 k v2 : Int32) : ol_M l D cA yX10_thing cX10_thing 5 (some FieldType.int) (ol_r 6 2 13) [.ref (ad 1), .int s2, .int k, .int v2] ro I F (fun v ro' I' F' => (¬ ol_k 7 s2 ∧ v = some (.int (-1000002)) ∧ ro' = ro ∧ I' = I ∧ F' = F) ∨ (ol_k 7 s2 ∧ n = 40 ∧ v = some (.int (-1000004)) ∧ ro' = ro ∧ I' = I ∧ F' = F) ∨ (ol_k 7 s2 ∧ n < 40 ∧ v = some (.int (nI n)) ∧ ∃ a q, ro a = 0 ∧ ro q = 0 ∧ a ≠ q ∧ ro' = va_up (va_up ro a (s2.toNatClampNeg + 2)) q 12 ∧ I' = ol_u2 (ol_nt (va_up I a (fun _ => 0)) a q (nI n) k v2) (ad 1) 1 (nI (n + 1)) ∧ F' = ol_u2 (ol_nf (va_up F a (fun _ => none)) a q) (ad 11) n (some a))) := by
  refine ol_M.of (by decide +kernel) (Nat.le_of_ble_eq_true rfl) (by simp [Value.category, ol_rfc]) ?_
  intro p e s m args below meth c C hret hlk hin
  have hy1 : ol_is ro (ad 1) (.inl 0) := hL.is 1 (by decide) (by decide) rfl
  refine ol_iload_n C dX10_thing_0 rfl rfl ?_
  refine ol_if_lt (tgt := 10) C dX10_thing_1 (by decide) (fun c_1 => ?_) (fun c_1 => ?_)
  · have hK : ¬ ol_k 7 s2 := fun q => q.1 c_1
    refine ol_ldc (v := (-1000002)) C wd_115 dX10_thing_10 ?_
    exact ol_iret C hret hlk rfl (by decide) (by decide) dX10_thing_12 (Or.inl ⟨hK, rfl, rfl, rfl, rfl⟩)
  · refine ol_iload_n C dX10_thing_4 rfl rfl ?_
    refine ol_bipush (v := 6) C dX10_thing_5 (by decide) ?_
    refine ol_icmp_le (tgt := 13) C dX10_thing_7 (by decide) (fun c_7 => ?_) (fun c_7 => ?_)
    · have hK : ol_k 7 s2 := ol_k_6.mp ⟨c_1, ol_le_nlt c_7⟩
      refine ol_aload_n C dX10_thing_13 rfl rfl (by first | exact ol_isq_r _ | exact ol_isq_q _ | exact ol_isq_n) ?_
      refine ol_gI (k := 1) C hy1 rfl rfl wd_87 (.inl rfl) dX10_thing_14 ?_
      refine ol_ti hn ?_
      refine ol_bipush (v := 40) C dX10_thing_17 (by decide) ?_
      refine ol_icmp_lt (tgt := 25) C dX10_thing_19 (by decide) (fun c_19 => ?_) (fun c_19 => ?_)
      · have hn40 : n < 40 := (nI_ltI (b := 40) (by omega) (by omega)).mp c_19
        refine ol_aload_n C dX10_thing_25 rfl rfl (by first | exact ol_isq_r _ | exact ol_isq_q _ | exact ol_isq_n) ?_
        refine ol_gI (k := 1) C hy1 rfl rfl wd_87 (.inl rfl) dX10_thing_26 ?_
        refine ol_ti hn ?_
        refine ol_istore C dX10_thing_29 (by decide) ?_
        refine ol_aload_n C dX10_thing_31 rfl rfl (by first | exact ol_isq_r _ | exact ol_isq_q _ | exact ol_isq_n) ?_
        refine ol_gR (k := 0) C hy1 rfl rfl wd_86 (.inl rfl) dX10_thing_32 ?_
        refine ol_rf hL.2.1 ?_
        refine ol_iload C dX10_thing_35 rfl ?_
        refine ol_iload_n C dX10_thing_37 rfl rfl ?_
        refine ol_iload C dX10_thing_38 rfl ?_
        refine ol_iload_n C dX10_thing_40 rfl rfl ?_
        refine ol_iload_n C dX10_thing_41 rfl rfl ?_
        refine ol_callS C (x_newThing l D cA s2 (nI n) k v2 hK) wd_119 wd_1 wd_117 wd_118 mh_X10_newThing (by decide) rfl (by first | exact Nat.le_of_ble_eq_true rfl | simp [ol_rfc, Value.category]) dX10_thing_42 (fun v_42 ro_42 I_42 F_42 hh_42 => ?_)
        obtain ⟨a, q, ha, hq, haq, rfl, rfl, rfl, rfl⟩ := hh_42
        have r1 := hL.1 1 (by decide)
        have r11 := hL.1 11 (by decide)
        have e1a : ad 1 ≠ a := fun e => by rw [e, ha] at r1; exact absurd r1 (by decide)
        have e1q : ad 1 ≠ q := fun e => by rw [e, hq] at r1; exact absurd r1 (by decide)
        have e11a : ad 11 ≠ a := fun e => by rw [e, ha] at r11; exact absurd r11 (by decide)
        have e11q : ad 11 ≠ q := fun e => by rw [e, hq] at r11; exact absurd r11 (by decide)
        have hx1 : ol_is (va_up (va_up ro a (s2.toNatClampNeg + 2)) q 12) (ad 1) (.inl 0) := ol_is_of (r := 1) (by rw [va_up_ne _ _ e1q, va_up_ne _ _ e1a]; exact r1) (by decide) rfl
        have hx11 : ol_is (va_up (va_up ro a (s2.toNatClampNeg + 2)) q 12) (ad 11) (.inr (2, 40)) := ol_is_of (r := 11) (by rw [va_up_ne _ _ e11q, va_up_ne _ _ e11a]; exact r11) (by decide) rfl
        have hta : ol_th (va_up (va_up ro a (s2.toNatClampNeg + 2)) q 12) a := by
          obtain ⟨j, hj, rfl, hj31⟩ := ol_k_ix hK (by decide)
          unfold ol_th
          rw [va_up_ne _ _ haq, va_up_self, nI_clamp hj31]
          omega
        have en : ol_nt (va_up I a (fun _ => 0)) a q (nI n) k v2 (ad 1) 1 = nI n := by
          unfold ol_nt
          rw [ol_u2_a _ _ e1a, ol_u2_a _ _ e1a, ol_u2_a _ _ e1a, ol_u2_a _ _ e1a, ol_u2_a _ _ e1a, va_up_ne _ _ e1q, va_up_ne _ _ e1a]
          exact hn
        refine ol_st (st' := va_rf _ :: _) rfl ?_
        refine ol_rf rfl ?_
        refine ol_sT (r := some _) n C rfl hx11 rfl hn40 (by decide) (fun c2 hc => by cases hc; exact hta) dX10_thing_45 ?_
        refine ol_aload_n C dX10_thing_46 rfl rfl (by first | exact ol_isq_r _ | exact ol_isq_q _ | exact ol_isq_n) ?_
        refine ol_dup C dX10_thing_47 (by first | rfl | exact ol_rfc _) ?_
        refine ol_gI (k := 1) C hx1 rfl rfl wd_87 (.inl rfl) dX10_thing_48 ?_
        refine ol_ti en ?_
        refine ol_iconst (v := 1) C dX10_thing_51 (by decide) ?_
        refine ol_iadd C dX10_thing_52 ?_
        refine ol_ti (nI_1 n) ?_
        refine ol_pI (k := 1) C hx1 rfl rfl wd_87 (.inl rfl) rfl rfl dX10_thing_53 ?_
        refine ol_iload C dX10_thing_56 rfl ?_
        exact ol_iret C hret hlk rfl (by decide) (by decide) dX10_thing_58 (Or.inr (Or.inr ⟨hK, hn40, rfl, a, q, ha, hq, haq, rfl, rfl, rfl⟩))
      · have hn40 : n = 40 := by
          have : ¬ n < 40 := fun q => c_19 ((nI_ltI (b := 40) (by omega) (by omega)).mpr q)
          omega
        refine ol_ldc (v := (-1000004)) C wd_116 dX10_thing_22 ?_
        exact ol_iret C hret hlk rfl (by decide) (by decide) dX10_thing_24 (Or.inr (Or.inl ⟨hK, hn40, rfl, rfl, rfl, rfl⟩))
    · have hK : ¬ ol_k 7 s2 := fun q => (ol_k_6.mpr q).2 (ol_nle_lt c_7)
      refine ol_ldc (v := (-1000002)) C wd_115 dX10_thing_10 ?_
      exact ol_iret C hret hlk rfl (by decide) (by decide) dX10_thing_12 (Or.inl ⟨hK, rfl, rfl, rfl, rfl⟩)
