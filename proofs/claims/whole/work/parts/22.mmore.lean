theorem mm_isB (l : Launch) (D : va_G) (cA : Nat → ClassId) {ro : Nat → Nat} {I : Nat → Nat → Int32} {F : Nat → Nat → Option Nat} {ad : Nat → Nat} (hL : ol_L ro F ad) {n : Nat} {So : Nat → Nat} {T : Nat → Nat → Int32} {P : Nat → Nat → Option Nat} (hT : ol_MT I ad n So T P) (hV : ol_V n So T P) {q : Option Nat} (hq : ∀ u, q = some u → u < n) : ol_M l D cA yX11_isBridge cX11_isBridge 2 (some .boolean) (ol_r 0 0 0) [.ref (ad 10), .int (ol_e q)] ro I F (ol_ei (ol_p (ol_br So q)) ro I F) := by
  rw [← ol_p_c (ol_brI hT hV hq)]
  exact mm_isBridge l D cA hL hV.1 hq

set_option maxRecDepth 100000 in
set_option maxHeartbeats 4000000 in
theorem mm_tellEnd (l : Launch) (D : va_G) (cA : Nat → ClassId) {ro : Nat → Nat} {I : Nat → Nat → Int32} {F : Nat → Nat → Option Nat} {ad : Nat → Nat} (hL : ol_L ro F ad) {n : Nat} {So : Nat → Nat} {T : Nat → Nat → Int32} {P : Nat → Nat → Option Nat} (hT : ol_MT I ad n So T P) (hV : ol_V n So T P) {b t : Nat} (hb : b < n) (ht : t < n) : ol_M l D cA yX11_tellEnd cX11_tellEnd 3 (some FieldType.int) (ol_r 1 0 0) [.ref (ad 10), .int (nI b), .int (nI t)] ro I F (ol_ei (ol_if (sp_en P b t = none) 1 (ol_if (ol_br So (sp_en P b t)) 3 0)) ro (ol_u2 I (ad 10) 9 (ol_e (sp_en P b t))) F) := by
  refine ol_M.of (by decide +kernel) (Nat.le_of_ble_eq_true rfl) (by simp [Value.category, ol_rfc]) ?_
  intro p e s m args below meth c C hret hlk hin
  have hm : ol_is ro (ad 10) (.inl 9) := hL.is 10 (by decide) (by decide) rfl
  have f_places : F (ad 10) 5 = some (ad 26) := hL.mf 5 26 (by decide)
  have i_places : ol_is ro (ad 26) (.inr (0, 240)) := hL.is 26 (by decide) (by decide) rfl
  have h40 := hV.1
  have e0 : I (ad 26) (6 * b) = ol_e (P 1 b) := (hT.2 b hb).2.2.2.2.2.2 0 (by decide)
  have e1 : I (ad 26) (6 * b + 1) = ol_e (P 2 b) := (hT.2 b hb).2.2.2.2.2.2 1 (by decide)
  have p0 := (hV.2 b hb).2.2 1 (by decide)
  have p1 := (hV.2 b hb).2.2 2 (by decide)
  have eq0 : (ol_e (P 1 b) = nI t) ↔ P 1 b = some t := ol_e_eq (fun u hu => by have := p0 u hu; omega) (by omega)
  have hen : ∀ u, sp_en P b t = some u → u < n := by
    intro u hu
    unfold sp_en ol_if at hu
    split at hu
    · exact p1 u hu
    · exact p0 u hu
  refine ol_aload_n C dX11_tellEnd_0 rfl rfl (by first | exact ol_isq_r _ | exact ol_isq_q _ | exact ol_isq_n) ?_
  refine ol_aload_n C dX11_tellEnd_1 rfl rfl (by first | exact ol_isq_r _ | exact ol_isq_q _ | exact ol_isq_n) ?_
  refine ol_gR (k := 5) C (by assumption) rfl rfl wd_585 (.inl rfl) dX11_tellEnd_2 ?_
  refine ol_rf (by assumption) ?_
  refine ol_bipush (v := 6) C dX11_tellEnd_5 (by decide) ?_
  refine ol_iload_n C dX11_tellEnd_7 rfl rfl ?_
  refine ol_imul C dX11_tellEnd_8 ?_
  refine ol_lI (6 * b) C (by assumption) (ol_m rfl) (by omega) (by decide) dX11_tellEnd_9 ?_
  refine ol_ti e0 ?_
  refine ol_iload_n C dX11_tellEnd_10 rfl rfl ?_
  refine ol_icmp_ne (tgt := 28) C dX11_tellEnd_11 (by decide) (fun c_11 => ?_) (fun c_11 => ?_)
  · have en : sp_en P b t = P 1 b := ol_if_f (fun q => c_11 (eq0.mpr q))
    rw [en] at hen
    refine ol_aload_n C dX11_tellEnd_28 rfl rfl (by first | exact ol_isq_r _ | exact ol_isq_q _ | exact ol_isq_n) ?_
    refine ol_gR (k := 5) C (by assumption) rfl rfl wd_585 (.inl rfl) dX11_tellEnd_29 ?_
    refine ol_rf (by assumption) ?_
    refine ol_bipush (v := 6) C dX11_tellEnd_32 (by decide) ?_
    refine ol_iload_n C dX11_tellEnd_34 rfl rfl ?_
    refine ol_imul C dX11_tellEnd_35 ?_
    refine ol_lI (6 * b) C (by assumption) (ol_m rfl) (by omega) (by decide) dX11_tellEnd_36 ?_
    refine ol_ti e0 ?_
    refine ol_pI (k := 9) C (by assumption) rfl rfl wd_589 (.inl rfl) rfl rfl dX11_tellEnd_37 ?_
    refine ol_aload_n C dX11_tellEnd_40 rfl rfl (by first | exact ol_isq_r _ | exact ol_isq_q _ | exact ol_isq_n) ?_
    refine ol_gI (k := 9) C (by assumption) rfl rfl wd_589 (.inl rfl) dX11_tellEnd_41 ?_
    rw [ol_u2_s]
    refine ol_ldc (v := (-1000009)) C wd_677 dX11_tellEnd_44 ?_
    refine ol_icmp_ne (tgt := 53) C dX11_tellEnd_46 (by decide) (fun c_46 => ?_) (fun c_46 => ?_)
    · have hz : ¬ sp_en P b t = none := by rw [en]; intro q; rw [q] at c_46; exact c_46 rfl
      refine ol_aload_n C dX11_tellEnd_53 rfl rfl (by first | exact ol_isq_r _ | exact ol_isq_q _ | exact ol_isq_n) ?_
      refine ol_aload_n C dX11_tellEnd_54 rfl rfl (by first | exact ol_isq_r _ | exact ol_isq_q _ | exact ol_isq_n) ?_
      refine ol_gI (k := 9) C (by assumption) rfl rfl wd_589 (.inl rfl) dX11_tellEnd_55 ?_
      rw [ol_u2_s]
      refine ol_callV C (mm_isB l D cA hL (ol_MT.sq hL ((ol_sq_rf ad I).up _ (Or.inl ⟨rfl, Or.inl rfl⟩)) hT) hV hen) hm.1 hm.2 rfl wd_711 wd_4 wd_708 wd_710 wq_13 mh_X11_isBridge (by decide) rfl (by first | exact Nat.le_of_ble_eq_true rfl | simp [ol_rfc, Value.category]) dX11_tellEnd_58 (ol_xi ?_)
      refine ol_if_eq (tgt := 68) C dX11_tellEnd_61 (by decide) (fun c_61 => ?_) (fun c_61 => ?_)
      · refine ol_iconst (v := 0) C dX11_tellEnd_68 (by decide) ?_
        exact ol_iret C hret hlk rfl (by decide) (by decide) dX11_tellEnd_69 ⟨by rw [ol_if_f hz, en, ol_if_f (ol_p_0.mp c_61)], rfl, by rw [en], rfl⟩
      · refine ol_iconst (v := 3) C dX11_tellEnd_64 (by decide) ?_
        refine ol_goto (tgt := 69) C dX11_tellEnd_65 (by decide) ?_
        exact ol_iret C hret hlk rfl (by decide) (by decide) dX11_tellEnd_69 ⟨by rw [ol_if_f hz, en, ol_if_t (ol_p_n.mp c_61)], rfl, by rw [en], rfl⟩
    · have hz := ol_e_n (fun u hu => by have := hen u hu; omega) c_46
      refine ol_iconst (v := 1) C dX11_tellEnd_49 (by decide) ?_
      refine ol_goto (tgt := 69) C dX11_tellEnd_50 (by decide) ?_
      exact ol_iret C hret hlk rfl (by decide) (by decide) dX11_tellEnd_69 ⟨by rw [ol_if_t (en.trans hz)], rfl, by rw [en], rfl⟩
  · have en : sp_en P b t = P 2 b := ol_if_t (eq0.mp c_11)
    rw [en] at hen
    refine ol_aload_n C dX11_tellEnd_14 rfl rfl (by first | exact ol_isq_r _ | exact ol_isq_q _ | exact ol_isq_n) ?_
    refine ol_gR (k := 5) C (by assumption) rfl rfl wd_585 (.inl rfl) dX11_tellEnd_15 ?_
    refine ol_rf (by assumption) ?_
    refine ol_bipush (v := 6) C dX11_tellEnd_18 (by decide) ?_
    refine ol_iload_n C dX11_tellEnd_20 rfl rfl ?_
    refine ol_imul C dX11_tellEnd_21 ?_
    refine ol_iconst (v := 1) C dX11_tellEnd_22 (by decide) ?_
    refine ol_iadd C dX11_tellEnd_23 ?_
    refine ol_lI (6 * b + 1) C (by assumption) (ol_ma (u := 1) rfl) (by omega) (by decide) dX11_tellEnd_24 ?_
    refine ol_ti e1 ?_
    refine ol_goto (tgt := 37) C dX11_tellEnd_25 (by decide) ?_
    refine ol_pI (k := 9) C (by assumption) rfl rfl wd_589 (.inl rfl) rfl rfl dX11_tellEnd_37 ?_
    refine ol_aload_n C dX11_tellEnd_40 rfl rfl (by first | exact ol_isq_r _ | exact ol_isq_q _ | exact ol_isq_n) ?_
    refine ol_gI (k := 9) C (by assumption) rfl rfl wd_589 (.inl rfl) dX11_tellEnd_41 ?_
    rw [ol_u2_s]
    refine ol_ldc (v := (-1000009)) C wd_677 dX11_tellEnd_44 ?_
    refine ol_icmp_ne (tgt := 53) C dX11_tellEnd_46 (by decide) (fun c_46 => ?_) (fun c_46 => ?_)
    · have hz : ¬ sp_en P b t = none := by rw [en]; intro q; rw [q] at c_46; exact c_46 rfl
      refine ol_aload_n C dX11_tellEnd_53 rfl rfl (by first | exact ol_isq_r _ | exact ol_isq_q _ | exact ol_isq_n) ?_
      refine ol_aload_n C dX11_tellEnd_54 rfl rfl (by first | exact ol_isq_r _ | exact ol_isq_q _ | exact ol_isq_n) ?_
      refine ol_gI (k := 9) C (by assumption) rfl rfl wd_589 (.inl rfl) dX11_tellEnd_55 ?_
      rw [ol_u2_s]
      refine ol_callV C (mm_isB l D cA hL (ol_MT.sq hL ((ol_sq_rf ad I).up _ (Or.inl ⟨rfl, Or.inl rfl⟩)) hT) hV hen) hm.1 hm.2 rfl wd_711 wd_4 wd_708 wd_710 wq_13 mh_X11_isBridge (by decide) rfl (by first | exact Nat.le_of_ble_eq_true rfl | simp [ol_rfc, Value.category]) dX11_tellEnd_58 (ol_xi ?_)
      refine ol_if_eq (tgt := 68) C dX11_tellEnd_61 (by decide) (fun c_61 => ?_) (fun c_61 => ?_)
      · refine ol_iconst (v := 0) C dX11_tellEnd_68 (by decide) ?_
        exact ol_iret C hret hlk rfl (by decide) (by decide) dX11_tellEnd_69 ⟨by rw [ol_if_f hz, en, ol_if_f (ol_p_0.mp c_61)], rfl, by rw [en], rfl⟩
      · refine ol_iconst (v := 3) C dX11_tellEnd_64 (by decide) ?_
        refine ol_goto (tgt := 69) C dX11_tellEnd_65 (by decide) ?_
        exact ol_iret C hret hlk rfl (by decide) (by decide) dX11_tellEnd_69 ⟨by rw [ol_if_f hz, en, ol_if_t (ol_p_n.mp c_61)], rfl, by rw [en], rfl⟩
    · have hz := ol_e_n (fun u hu => by have := hen u hu; omega) c_46
      refine ol_iconst (v := 1) C dX11_tellEnd_49 (by decide) ?_
      refine ol_goto (tgt := 69) C dX11_tellEnd_50 (by decide) ?_
      exact ol_iret C hret hlk rfl (by decide) (by decide) dX11_tellEnd_69 ⟨by rw [ol_if_t (en.trans hz)], rfl, by rw [en], rfl⟩

set_option maxRecDepth 100000 in
set_option maxHeartbeats 4000000 in
theorem mm_found_old (l : Launch) (D : va_G) (cA : Nat → ClassId) {ro : Nat → Nat} {I : Nat → Nat → Int32} {F : Nat → Nat → Option Nat} {ad : Nat → Nat} (hL : ol_L ro F ad) {g t k : Nat} (hg : g < 2) (ht : t < 40) (h : ¬ I (ad 33) (40 * g + t) < 0) : ol_M l D cA yX11_found cX11_found 3 (some FieldType.int) (ol_r 0 0 0) [.ref (ad 10), .int (nI g), .int (nI t)] ro I F (ol_ei (I (ad 33) (40 * g + t)) ro I F) := by
  refine ol_M.of (by decide +kernel) (Nat.le_of_ble_eq_true rfl) (by simp [Value.category, ol_rfc]) ?_
  intro p e s m args below meth c C hret hlk hin
  have hm : ol_is ro (ad 10) (.inl 9) := hL.is 10 (by decide) (by decide) rfl
  have f_nodes : F (ad 10) 13 = some (ad 31) := hL.mf 13 31 (by decide)
  have i_nodes : ol_is ro (ad 31) (.inr (0, 2)) := hL.is 31 (by decide) (by decide) rfl
  have f_thingOf : F (ad 10) 14 = some (ad 32) := hL.mf 14 32 (by decide)
  have i_thingOf : ol_is ro (ad 32) (.inr (0, 80)) := hL.is 32 (by decide) (by decide) rfl
  have f_nodeOf : F (ad 10) 15 = some (ad 33) := hL.mf 15 33 (by decide)
  have i_nodeOf : ol_is ro (ad 33) (.inr (0, 80)) := hL.is 33 (by decide) (by decide) rfl
  refine ol_aload_n C dX11_found_0 rfl rfl (by first | exact ol_isq_r _ | exact ol_isq_q _ | exact ol_isq_n) ?_
  refine ol_gR (k := 15) C (by assumption) rfl rfl wd_595 (.inl rfl) dX11_found_1 ?_
  refine ol_rf (by assumption) ?_
  refine ol_bipush (v := 40) C dX11_found_4 (by decide) ?_
  refine ol_iload_n C dX11_found_6 rfl rfl ?_
  refine ol_imul C dX11_found_7 ?_
  refine ol_iload_n C dX11_found_8 rfl rfl ?_
  refine ol_iadd C dX11_found_9 ?_
  refine ol_lI (40 * g + t) C (by assumption) (ol_ma rfl) (by omega) (by decide) dX11_found_10 ?_
  refine ol_if_ge (tgt := 58) C dX11_found_11 (by decide) (fun c_11 => ?_) (fun c_11 => absurd (ol_nge c_11) h)
  refine ol_aload_n C dX11_found_58 rfl rfl (by first | exact ol_isq_r _ | exact ol_isq_q _ | exact ol_isq_n) ?_
  refine ol_gR (k := 15) C (by assumption) rfl rfl wd_595 (.inl rfl) dX11_found_59 ?_
  refine ol_rf (by assumption) ?_
  refine ol_bipush (v := 40) C dX11_found_62 (by decide) ?_
  refine ol_iload_n C dX11_found_64 rfl rfl ?_
  refine ol_imul C dX11_found_65 ?_
  refine ol_iload_n C dX11_found_66 rfl rfl ?_
  refine ol_iadd C dX11_found_67 ?_
  refine ol_lI (40 * g + t) C (by assumption) (ol_ma rfl) (by omega) (by decide) dX11_found_68 ?_
  exact ol_iret C hret hlk rfl (by decide) (by decide) dX11_found_69 ⟨rfl, rfl, rfl, rfl⟩

set_option maxRecDepth 100000 in
set_option maxHeartbeats 4000000 in
theorem mm_found_new (l : Launch) (D : va_G) (cA : Nat → ClassId) {ro : Nat → Nat} {I : Nat → Nat → Int32} {F : Nat → Nat → Option Nat} {ad : Nat → Nat} (hL : ol_L ro F ad) {g t k : Nat} (hg : g < 2) (ht : t < 40) (h : I (ad 33) (40 * g + t) < 0) (hk : I (ad 31) g = nI k) (hk40 : k < 40) : ol_M l D cA yX11_found cX11_found 3 (some FieldType.int) (ol_r 0 0 0) [.ref (ad 10), .int (nI g), .int (nI t)] ro I F (ol_ei (nI k) ro (ol_u2 (ol_u2 (ol_u2 I (ad 33) (40 * g + t) (nI k)) (ad 32) (40 * g + k) (nI t)) (ad 31) g (nI (k + 1))) F) := by
  refine ol_M.of (by decide +kernel) (Nat.le_of_ble_eq_true rfl) (by simp [Value.category, ol_rfc]) ?_
  intro p e s m args below meth c C hret hlk hin
  have hm : ol_is ro (ad 10) (.inl 9) := hL.is 10 (by decide) (by decide) rfl
  have f_nodes : F (ad 10) 13 = some (ad 31) := hL.mf 13 31 (by decide)
  have i_nodes : ol_is ro (ad 31) (.inr (0, 2)) := hL.is 31 (by decide) (by decide) rfl
  have f_thingOf : F (ad 10) 14 = some (ad 32) := hL.mf 14 32 (by decide)
  have i_thingOf : ol_is ro (ad 32) (.inr (0, 80)) := hL.is 32 (by decide) (by decide) rfl
  have f_nodeOf : F (ad 10) 15 = some (ad 33) := hL.mf 15 33 (by decide)
  have i_nodeOf : ol_is ro (ad 33) (.inr (0, 80)) := hL.is 33 (by decide) (by decide) rfl
  have n31_33 : ad 31 ≠ ad 33 := hL.ne (by decide) (by decide) (by decide)
  have n31_32 : ad 31 ≠ ad 32 := hL.ne (by decide) (by decide) (by decide)
  have n33_32 : ad 33 ≠ ad 32 := hL.ne (by decide) (by decide) (by decide)
  have n33_31 : ad 33 ≠ ad 31 := hL.ne (by decide) (by decide) (by decide)
  have n32_33 : ad 32 ≠ ad 33 := hL.ne (by decide) (by decide) (by decide)
  refine ol_aload_n C dX11_found_0 rfl rfl (by first | exact ol_isq_r _ | exact ol_isq_q _ | exact ol_isq_n) ?_
  refine ol_gR (k := 15) C (by assumption) rfl rfl wd_595 (.inl rfl) dX11_found_1 ?_
  refine ol_rf (by assumption) ?_
  refine ol_bipush (v := 40) C dX11_found_4 (by decide) ?_
  refine ol_iload_n C dX11_found_6 rfl rfl ?_
  refine ol_imul C dX11_found_7 ?_
  refine ol_iload_n C dX11_found_8 rfl rfl ?_
  refine ol_iadd C dX11_found_9 ?_
  refine ol_lI (40 * g + t) C (by assumption) (ol_ma rfl) (by omega) (by decide) dX11_found_10 ?_
  refine ol_if_ge (tgt := 58) C dX11_found_11 (by decide) (fun c_11 => absurd h (ol_nlt c_11)) (fun c_11 => ?_)
  refine ol_aload_n C dX11_found_14 rfl rfl (by first | exact ol_isq_r _ | exact ol_isq_q _ | exact ol_isq_n) ?_
  refine ol_gR (k := 15) C (by assumption) rfl rfl wd_595 (.inl rfl) dX11_found_15 ?_
  refine ol_rf (by assumption) ?_
  refine ol_bipush (v := 40) C dX11_found_18 (by decide) ?_
  refine ol_iload_n C dX11_found_20 rfl rfl ?_
  refine ol_imul C dX11_found_21 ?_
  refine ol_iload_n C dX11_found_22 rfl rfl ?_
  refine ol_iadd C dX11_found_23 ?_
  refine ol_aload_n C dX11_found_24 rfl rfl (by first | exact ol_isq_r _ | exact ol_isq_q _ | exact ol_isq_n) ?_
  refine ol_gR (k := 13) C (by assumption) rfl rfl wd_593 (.inl rfl) dX11_found_25 ?_
  refine ol_rf (by assumption) ?_
  refine ol_iload_n C dX11_found_28 rfl rfl ?_
  refine ol_lI g C (by assumption) rfl hg (by decide) dX11_found_29 ?_
  refine ol_ti hk ?_
  refine ol_sI (40 * g + t) C (by assumption) (ol_ma rfl) (by omega) (by decide) dX11_found_30 ?_
  refine ol_aload_n C dX11_found_31 rfl rfl (by first | exact ol_isq_r _ | exact ol_isq_q _ | exact ol_isq_n) ?_
  refine ol_gR (k := 14) C (by assumption) rfl rfl wd_594 (.inl rfl) dX11_found_32 ?_
  refine ol_rf (by assumption) ?_
  refine ol_bipush (v := 40) C dX11_found_35 (by decide) ?_
  refine ol_iload_n C dX11_found_37 rfl rfl ?_
  refine ol_imul C dX11_found_38 ?_
  refine ol_aload_n C dX11_found_39 rfl rfl (by first | exact ol_isq_r _ | exact ol_isq_q _ | exact ol_isq_n) ?_
  refine ol_gR (k := 13) C (by assumption) rfl rfl wd_593 (.inl rfl) dX11_found_40 ?_
  refine ol_rf (by assumption) ?_
  refine ol_iload_n C dX11_found_43 rfl rfl ?_
  refine ol_lI g C (by assumption) rfl hg (by decide) dX11_found_44 ?_
  rw [ol_u2_a I _ n31_33]
  refine ol_ti hk ?_
  refine ol_iadd C dX11_found_45 ?_
  refine ol_iload_n C dX11_found_46 rfl rfl ?_
  refine ol_sI (40 * g + k) C (by assumption) (ol_ma rfl) (by omega) (by decide) dX11_found_47 ?_
  refine ol_aload_n C dX11_found_48 rfl rfl (by first | exact ol_isq_r _ | exact ol_isq_q _ | exact ol_isq_n) ?_
  refine ol_gR (k := 13) C (by assumption) rfl rfl wd_593 (.inl rfl) dX11_found_49 ?_
  refine ol_rf (by assumption) ?_
  refine ol_iload_n C dX11_found_52 rfl rfl ?_
  refine ol_dup2 C dX11_found_53 (by first | rfl | exact ol_rfc _) (by first | rfl | exact ol_rfc _) ?_
  refine ol_lI g C (by assumption) rfl hg (by decide) dX11_found_54 ?_
  rw [ol_u2_a _ _ n31_32, ol_u2_a I _ n31_33]
  refine ol_ti hk ?_
  refine ol_iconst (v := 1) C dX11_found_55 (by decide) ?_
  refine ol_iadd C dX11_found_56 ?_
  refine ol_ti (nI_1 k) ?_
  refine ol_sI g C (by assumption) rfl hg (by decide) dX11_found_57 ?_
  refine ol_aload_n C dX11_found_58 rfl rfl (by first | exact ol_isq_r _ | exact ol_isq_q _ | exact ol_isq_n) ?_
  refine ol_gR (k := 15) C (by assumption) rfl rfl wd_595 (.inl rfl) dX11_found_59 ?_
  refine ol_rf (by assumption) ?_
  refine ol_bipush (v := 40) C dX11_found_62 (by decide) ?_
  refine ol_iload_n C dX11_found_64 rfl rfl ?_
  refine ol_imul C dX11_found_65 ?_
  refine ol_iload_n C dX11_found_66 rfl rfl ?_
  refine ol_iadd C dX11_found_67 ?_
  refine ol_lI (40 * g + t) C (by assumption) (ol_ma rfl) (by omega) (by decide) dX11_found_68 ?_
  rw [ol_u2_a _ _ n33_31, ol_u2_a _ _ n33_32, ol_u2_s]
  exact ol_iret C hret hlk rfl (by decide) (by decide) dX11_found_69 ⟨rfl, rfl, rfl, rfl⟩
