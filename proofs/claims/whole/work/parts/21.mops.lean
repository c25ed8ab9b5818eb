set_option maxRecDepth 100000 in
set_option maxHeartbeats 4000000 in
theorem mm_next (l : Launch) (D : va_G) (cA : Nat → ClassId) {ro : Nat → Nat} {I : Nat → Nat → Int32} {F : Nat → Nat → Option Nat} {ad : Nat → Nat} (hL : ol_L ro F ad) {n : Nat} (hn : I (ad 10) 0 = nI n) (h40 : n ≤ 40) (t u : Int32) : ol_M l D cA yX11_next cX11_next 3 (some FieldType.int) (ol_r 2 0 0) [.ref (ad 10), .int t, .int u] ro I F (ol_ei (ol_if (ol_k n t ∧ (u = -1000009 ∨ ol_k n u)) 1 (-1000001)) ro (ol_if (ol_k n t ∧ (u = -1000009 ∨ ol_k n u)) (ol_u2 I (ad 25) t.toNatClampNeg u) I) F) := by
  refine ol_M.of (by decide +kernel) (Nat.le_of_ble_eq_true rfl) (by simp [Value.category, ol_rfc]) ?_
  intro p e s m args below meth c C hret hlk hin
  have hm : ol_is ro (ad 10) (.inl 9) := hL.is 10 (by decide) (by decide) rfl
  have f_nexts : F (ad 10) 4 = some (ad 25) := hL.mf 4 25 (by decide)
  have i_nexts : ol_is ro (ad 25) (.inr (0, 40)) := hL.is 25 (by decide) (by decide) rfl
  refine ol_aload_n C dX11_next_0 rfl rfl (by first | exact ol_isq_r _ | exact ol_isq_q _ | exact ol_isq_n) ?_
  refine ol_iload_n C dX11_next_1 rfl rfl ?_
  refine ol_callV C (mm_isThing l D cA hL hn h40 t) hm.1 hm.2 rfl wd_685 wd_4 wd_682 wd_684 wq_12 mh_X11_isThing (by decide) rfl (by first | exact Nat.le_of_ble_eq_true rfl | simp [ol_rfc, Value.category]) dX11_next_2 (ol_xi ?_)
  refine ol_if_eq (tgt := 22) C dX11_next_5 (by decide) (fun c_5 => ?_) (fun c_5 => ?_)
  · have hK := ol_p_0.mp c_5
    have hQ : ¬ (ol_k n t ∧ (u = -1000009 ∨ ol_k n u)) := fun q => hK q.1
    refine ol_ldc (v := (-1000001)) C wd_686 dX11_next_22 ?_
    exact ol_iret C hret hlk rfl (by decide) (by decide) dX11_next_24 ⟨by rw [ol_if_f hQ], rfl, by rw [ol_if_f hQ], rfl⟩
  · have hK := ol_p_n.mp c_5
    obtain ⟨j, hj, ej, hj31⟩ := ol_k_ix hK h40
    have hj40 : j < 40 := by omega
    refine ol_iload_n C dX11_next_8 rfl rfl ?_
    refine ol_ldc (v := (-1000009)) C wd_677 dX11_next_9 ?_
    refine ol_icmp_eq (tgt := 25) C dX11_next_11 (by decide) (fun c_11 => ?_) (fun c_11 => ?_)
    · have hQ : ol_k n t ∧ (u = -1000009 ∨ ol_k n u) := ⟨hK, Or.inl c_11⟩
      refine ol_aload_n C dX11_next_25 rfl rfl (by first | exact ol_isq_r _ | exact ol_isq_q _ | exact ol_isq_n) ?_
      refine ol_gR (k := 4) C (by assumption) rfl rfl wd_584 (.inl rfl) dX11_next_26 ?_
      refine ol_rf (by assumption) ?_
      refine ol_iload_n C dX11_next_29 rfl rfl ?_
      refine ol_iload_n C dX11_next_30 rfl rfl ?_
      refine ol_sI j C (by assumption) ej hj40 (by decide) dX11_next_31 ?_
      refine ol_iconst (v := 1) C dX11_next_32 (by decide) ?_
      exact ol_iret C hret hlk rfl (by decide) (by decide) dX11_next_33 ⟨by rw [ol_if_t hQ], rfl, by rw [ol_if_t hQ, ej, nI_clamp hj31], rfl⟩
    · refine ol_aload_n C dX11_next_14 rfl rfl (by first | exact ol_isq_r _ | exact ol_isq_q _ | exact ol_isq_n) ?_
      refine ol_iload_n C dX11_next_15 rfl rfl ?_
      refine ol_callV C (mm_isThing l D cA hL hn h40 u) hm.1 hm.2 rfl wd_685 wd_4 wd_682 wd_684 wq_12 mh_X11_isThing (by decide) rfl (by first | exact Nat.le_of_ble_eq_true rfl | simp [ol_rfc, Value.category]) dX11_next_16 (ol_xi ?_)
      refine ol_if_ne (tgt := 25) C dX11_next_19 (by decide) (fun c_19 => ?_) (fun c_19 => ?_)
      · have hQ : ol_k n t ∧ (u = -1000009 ∨ ol_k n u) := ⟨hK, Or.inr (ol_p_n.mp c_19)⟩
        refine ol_aload_n C dX11_next_25 rfl rfl (by first | exact ol_isq_r _ | exact ol_isq_q _ | exact ol_isq_n) ?_
        refine ol_gR (k := 4) C (by assumption) rfl rfl wd_584 (.inl rfl) dX11_next_26 ?_
        refine ol_rf (by assumption) ?_
        refine ol_iload_n C dX11_next_29 rfl rfl ?_
        refine ol_iload_n C dX11_next_30 rfl rfl ?_
        refine ol_sI j C (by assumption) ej hj40 (by decide) dX11_next_31 ?_
        refine ol_iconst (v := 1) C dX11_next_32 (by decide) ?_
        exact ol_iret C hret hlk rfl (by decide) (by decide) dX11_next_33 ⟨by rw [ol_if_t hQ], rfl, by rw [ol_if_t hQ, ej, nI_clamp hj31], rfl⟩
      · have hQ : ¬ (ol_k n t ∧ (u = -1000009 ∨ ol_k n u)) := fun q => q.2.elim c_11 (ol_p_0.mp c_19)
        refine ol_ldc (v := (-1000001)) C wd_686 dX11_next_22 ?_
        exact ol_iret C hret hlk rfl (by decide) (by decide) dX11_next_24 ⟨by rw [ol_if_f hQ], rfl, by rw [ol_if_f hQ], rfl⟩

set_option maxRecDepth 100000 in
set_option maxHeartbeats 4000000 in
theorem mm_place (l : Launch) (D : va_G) (cA : Nat → ClassId) {ro : Nat → Nat} {I : Nat → Nat → Int32} {F : Nat → Nat → Option Nat} {ad : Nat → Nat} (hL : ol_L ro F ad) {n : Nat} (hn : I (ad 10) 0 = nI n) (h40 : n ≤ 40) (t i u : Int32) : ol_M l D cA yX11_place cX11_place 4 (some FieldType.int) (ol_r 2 0 0) [.ref (ad 10), .int t, .int i, .int u] ro I F (ol_ei (ol_if (ol_k n t ∧ (u = -1000009 ∨ ol_k n u)) (ol_if (ol_k 6 i) 1 (-1000002)) (-1000001)) ro (ol_if ((ol_k n t ∧ (u = -1000009 ∨ ol_k n u)) ∧ ol_k 6 i) (ol_u2 I (ad 26) (6 * t.toNatClampNeg + i.toNatClampNeg) u) I) F) := by
  refine ol_M.of (by decide +kernel) (Nat.le_of_ble_eq_true rfl) (by simp [Value.category, ol_rfc]) ?_
  intro p e s m args below meth c C hret hlk hin
  have hm : ol_is ro (ad 10) (.inl 9) := hL.is 10 (by decide) (by decide) rfl
  have f_places : F (ad 10) 5 = some (ad 26) := hL.mf 5 26 (by decide)
  have i_places : ol_is ro (ad 26) (.inr (0, 240)) := hL.is 26 (by decide) (by decide) rfl
  refine ol_aload_n C dX11_place_0 rfl rfl (by first | exact ol_isq_r _ | exact ol_isq_q _ | exact ol_isq_n) ?_
  refine ol_iload_n C dX11_place_1 rfl rfl ?_
  refine ol_callV C (mm_isThing l D cA hL hn h40 t) hm.1 hm.2 rfl wd_685 wd_4 wd_682 wd_684 wq_12 mh_X11_isThing (by decide) rfl (by first | exact Nat.le_of_ble_eq_true rfl | simp [ol_rfc, Value.category]) dX11_place_2 (ol_xi ?_)
  refine ol_if_eq (tgt := 22) C dX11_place_5 (by decide) (fun c_5 => ?_) (fun c_5 => ?_)
  · have hK := ol_p_0.mp c_5
    have hQ : ¬ (ol_k n t ∧ (u = -1000009 ∨ ol_k n u)) := fun q => hK q.1
    refine ol_ldc (v := (-1000001)) C wd_686 dX11_place_22 ?_
    exact ol_iret C hret hlk rfl (by decide) (by decide) dX11_place_24 ⟨by rw [ol_if_f hQ], rfl, by rw [ol_if_f (fun q => hQ q.1)], rfl⟩
  · have hK := ol_p_n.mp c_5
    obtain ⟨j, hj, ej, hj31⟩ := ol_k_ix hK h40
    have hj40 : j < 40 := by omega
    refine ol_iload_n C dX11_place_8 rfl rfl ?_
    refine ol_ldc (v := (-1000009)) C wd_677 dX11_place_9 ?_
    refine ol_icmp_eq (tgt := 25) C dX11_place_11 (by decide) (fun c_11 => ?_) (fun c_11 => ?_)
    · have hQ : ol_k n t ∧ (u = -1000009 ∨ ol_k n u) := ⟨hK, Or.inl c_11⟩
      refine ol_iload_n C dX11_place_25 rfl rfl ?_
      refine ol_iconst (v := 0) C dX11_place_26 (by decide) ?_
      refine ol_iconst (v := 5) C dX11_place_27 (by decide) ?_
      refine ol_callS C (mm_in l D cA i 0 5) wd_674 wd_4 wd_672 wd_673 mh_X11_in (by decide) rfl (by first | exact Nat.le_of_ble_eq_true rfl | simp [ol_rfc, Value.category]) dX11_place_28 (ol_xi ?_)
      refine ol_if_ne (tgt := 37) C dX11_place_31 (by decide) (fun c_31 => ?_) (fun c_31 => ?_)
      · have hI := (ol_k_5).mp (ol_p_n.mp c_31)
        obtain ⟨v, hv, ev, hv31⟩ := ol_k_ix hI (by omega)
        refine ol_aload_n C dX11_place_37 rfl rfl (by first | exact ol_isq_r _ | exact ol_isq_q _ | exact ol_isq_n) ?_
        refine ol_gR (k := 5) C (by assumption) rfl rfl wd_585 (.inl rfl) dX11_place_38 ?_
        refine ol_rf (by assumption) ?_
        refine ol_bipush (v := 6) C dX11_place_41 (by decide) ?_
        refine ol_iload_n C dX11_place_43 rfl rfl ?_
        refine ol_imul C dX11_place_44 ?_
        refine ol_iload_n C dX11_place_45 rfl rfl ?_
        refine ol_iadd C dX11_place_46 ?_
        refine ol_iload_n C dX11_place_47 rfl rfl ?_
        refine ol_sI (6 * j + v) C (by assumption) (by rw [ej, ev]; exact ol_ma rfl) (by omega) (by decide) dX11_place_48 ?_
        refine ol_iconst (v := 1) C dX11_place_49 (by decide) ?_
        exact ol_iret C hret hlk rfl (by decide) (by decide) dX11_place_50 ⟨by rw [ol_if_t hQ, ol_if_t hI], rfl, by rw [ol_if_t ⟨hQ, hI⟩, ej, ev, nI_clamp hj31, nI_clamp hv31], rfl⟩
      · have hI : ¬ ol_k 6 i := fun q => ol_p_0.mp c_31 (ol_k_5.mpr q)
        refine ol_ldc (v := (-1000002)) C wd_675 dX11_place_34 ?_
        exact ol_iret C hret hlk rfl (by decide) (by decide) dX11_place_36 ⟨by rw [ol_if_t hQ, ol_if_f hI], rfl, by rw [ol_if_f (fun q => hI q.2)], rfl⟩
    · refine ol_aload_n C dX11_place_14 rfl rfl (by first | exact ol_isq_r _ | exact ol_isq_q _ | exact ol_isq_n) ?_
      refine ol_iload_n C dX11_place_15 rfl rfl ?_
      refine ol_callV C (mm_isThing l D cA hL hn h40 u) hm.1 hm.2 rfl wd_685 wd_4 wd_682 wd_684 wq_12 mh_X11_isThing (by decide) rfl (by first | exact Nat.le_of_ble_eq_true rfl | simp [ol_rfc, Value.category]) dX11_place_16 (ol_xi ?_)
      refine ol_if_ne (tgt := 25) C dX11_place_19 (by decide) (fun c_19 => ?_) (fun c_19 => ?_)
      · have hQ : ol_k n t ∧ (u = -1000009 ∨ ol_k n u) := ⟨hK, Or.inr (ol_p_n.mp c_19)⟩
        refine ol_iload_n C dX11_place_25 rfl rfl ?_
        refine ol_iconst (v := 0) C dX11_place_26 (by decide) ?_
        refine ol_iconst (v := 5) C dX11_place_27 (by decide) ?_
        refine ol_callS C (mm_in l D cA i 0 5) wd_674 wd_4 wd_672 wd_673 mh_X11_in (by decide) rfl (by first | exact Nat.le_of_ble_eq_true rfl | simp [ol_rfc, Value.category]) dX11_place_28 (ol_xi ?_)
        refine ol_if_ne (tgt := 37) C dX11_place_31 (by decide) (fun c_31 => ?_) (fun c_31 => ?_)
        · have hI := (ol_k_5).mp (ol_p_n.mp c_31)
          obtain ⟨v, hv, ev, hv31⟩ := ol_k_ix hI (by omega)
          refine ol_aload_n C dX11_place_37 rfl rfl (by first | exact ol_isq_r _ | exact ol_isq_q _ | exact ol_isq_n) ?_
          refine ol_gR (k := 5) C (by assumption) rfl rfl wd_585 (.inl rfl) dX11_place_38 ?_
          refine ol_rf (by assumption) ?_
          refine ol_bipush (v := 6) C dX11_place_41 (by decide) ?_
          refine ol_iload_n C dX11_place_43 rfl rfl ?_
          refine ol_imul C dX11_place_44 ?_
          refine ol_iload_n C dX11_place_45 rfl rfl ?_
          refine ol_iadd C dX11_place_46 ?_
          refine ol_iload_n C dX11_place_47 rfl rfl ?_
          refine ol_sI (6 * j + v) C (by assumption) (by rw [ej, ev]; exact ol_ma rfl) (by omega) (by decide) dX11_place_48 ?_
          refine ol_iconst (v := 1) C dX11_place_49 (by decide) ?_
          exact ol_iret C hret hlk rfl (by decide) (by decide) dX11_place_50 ⟨by rw [ol_if_t hQ, ol_if_t hI], rfl, by rw [ol_if_t ⟨hQ, hI⟩, ej, ev, nI_clamp hj31, nI_clamp hv31], rfl⟩
        · have hI : ¬ ol_k 6 i := fun q => ol_p_0.mp c_31 (ol_k_5.mpr q)
          refine ol_ldc (v := (-1000002)) C wd_675 dX11_place_34 ?_
          exact ol_iret C hret hlk rfl (by decide) (by decide) dX11_place_36 ⟨by rw [ol_if_t hQ, ol_if_f hI], rfl, by rw [ol_if_f (fun q => hI q.2)], rfl⟩
      · have hQ : ¬ (ol_k n t ∧ (u = -1000009 ∨ ol_k n u)) := fun q => q.2.elim c_11 (ol_p_0.mp c_19)
        refine ol_ldc (v := (-1000001)) C wd_686 dX11_place_22 ?_
        exact ol_iret C hret hlk rfl (by decide) (by decide) dX11_place_24 ⟨by rw [ol_if_f hQ], rfl, by rw [ol_if_f (fun q => hQ q.1)], rfl⟩

set_option maxRecDepth 100000 in
set_option maxHeartbeats 4000000 in
theorem mm_hold (l : Launch) (D : va_G) (cA : Nat → ClassId) {ro : Nat → Nat} {I : Nat → Nat → Int32} {F : Nat → Nat → Option Nat} {ad : Nat → Nat} (hL : ol_L ro F ad) {n : Nat} (hn : I (ad 10) 0 = nI n) (h40 : n ≤ 40) (t b : Int32) (hb : vp_nar .boolean b = b) : ol_M l D cA yX11_hold cX11_hold 4 (some FieldType.int) (ol_r 2 0 0) [.ref (ad 10), .int t, .int b] ro I F (ol_ei (ol_if (ol_k n t) (ol_p (¬ I (ad 27) t.toNatClampNeg = 0)) (-1000001)) ro (ol_if (ol_k n t) (ol_u2 I (ad 27) t.toNatClampNeg b) I) F) := by
  refine ol_M.of (by decide +kernel) (Nat.le_of_ble_eq_true rfl) (by simp [Value.category, ol_rfc]) ?_
  intro p e s m args below meth c C hret hlk hin
  have hm : ol_is ro (ad 10) (.inl 9) := hL.is 10 (by decide) (by decide) rfl
  have f_isHeld : F (ad 10) 6 = some (ad 27) := hL.mf 6 27 (by decide)
  have i_isHeld : ol_is ro (ad 27) (.inr (1, 40)) := hL.is 27 (by decide) (by decide) rfl
  refine ol_aload_n C dX11_hold_0 rfl rfl (by first | exact ol_isq_r _ | exact ol_isq_q _ | exact ol_isq_n) ?_
  refine ol_iload_n C dX11_hold_1 rfl rfl ?_
  refine ol_callV C (mm_isThing l D cA hL hn h40 t) hm.1 hm.2 rfl wd_685 wd_4 wd_682 wd_684 wq_12 mh_X11_isThing (by decide) rfl (by first | exact Nat.le_of_ble_eq_true rfl | simp [ol_rfc, Value.category]) dX11_hold_2 (ol_xi ?_)
  refine ol_if_ne (tgt := 11) C dX11_hold_5 (by decide) (fun c_5 => ?_) (fun c_5 => ?_)
  · have hK := ol_p_n.mp c_5
    obtain ⟨j, hj, rfl, hj31⟩ := ol_k_ix hK h40
    have hj40 : j < 40 := by omega
    refine ol_aload_n C dX11_hold_11 rfl rfl (by first | exact ol_isq_r _ | exact ol_isq_q _ | exact ol_isq_n) ?_
    refine ol_gR (k := 6) C (by assumption) rfl rfl wd_586 (.inl rfl) dX11_hold_12 ?_
    refine ol_rf (by assumption) ?_
    refine ol_iload_n C dX11_hold_15 rfl rfl ?_
    refine ol_lZ j C (by assumption) rfl hj40 (by decide) dX11_hold_16 ?_
    refine ol_if_eq (tgt := 24) C dX11_hold_17 (by decide) (fun c_17 => ?_) (fun c_17 => ?_)
    · refine ol_iconst (v := 0) C dX11_hold_24 (by decide) ?_
      refine ol_istore_n C dX11_hold_25 rfl (by decide) ?_
      refine ol_aload_n C dX11_hold_26 rfl rfl (by first | exact ol_isq_r _ | exact ol_isq_q _ | exact ol_isq_n) ?_
      refine ol_gR (k := 6) C (by assumption) rfl rfl wd_586 (.inl rfl) dX11_hold_27 ?_
      refine ol_rf (by assumption) ?_
      refine ol_iload_n C dX11_hold_30 rfl rfl ?_
      refine ol_iload_n C dX11_hold_31 rfl rfl ?_
      refine ol_sZ j C (by assumption) rfl hj40 (by decide) hb dX11_hold_32 ?_
      refine ol_iload_n C dX11_hold_33 rfl rfl ?_
      exact ol_iret C hret hlk rfl (by decide) (by decide) dX11_hold_34 ⟨by rw [ol_if_t hK, nI_clamp hj31]; exact ol_pf (fun q => q c_17), rfl, by rw [ol_if_t hK, nI_clamp hj31], rfl⟩
    · refine ol_iconst (v := 1) C dX11_hold_20 (by decide) ?_
      refine ol_goto (tgt := 25) C dX11_hold_21 (by decide) ?_
      refine ol_istore_n C dX11_hold_25 rfl (by decide) ?_
      refine ol_aload_n C dX11_hold_26 rfl rfl (by first | exact ol_isq_r _ | exact ol_isq_q _ | exact ol_isq_n) ?_
      refine ol_gR (k := 6) C (by assumption) rfl rfl wd_586 (.inl rfl) dX11_hold_27 ?_
      refine ol_rf (by assumption) ?_
      refine ol_iload_n C dX11_hold_30 rfl rfl ?_
      refine ol_iload_n C dX11_hold_31 rfl rfl ?_
      refine ol_sZ j C (by assumption) rfl hj40 (by decide) hb dX11_hold_32 ?_
      refine ol_iload_n C dX11_hold_33 rfl rfl ?_
      exact ol_iret C hret hlk rfl (by decide) (by decide) dX11_hold_34 ⟨by rw [ol_if_t hK, nI_clamp hj31]; exact ol_pt c_17, rfl, by rw [ol_if_t hK, nI_clamp hj31], rfl⟩
  · have hK := ol_p_0.mp c_5
    refine ol_ldc (v := (-1000001)) C wd_686 dX11_hold_8 ?_
    exact ol_iret C hret hlk rfl (by decide) (by decide) dX11_hold_10 ⟨by rw [ol_if_f hK], rfl, by rw [ol_if_f hK], rfl⟩

set_option maxRecDepth 100000 in
set_option maxHeartbeats 4000000 in
theorem mm_isNode (l : Launch) (D : va_G) (cA : Nat → ClassId) {ro : Nat → Nat} {I : Nat → Nat → Int32} {F : Nat → Nat → Option Nat} {ad : Nat → Nat} (hL : ol_L ro F ad) {w nn : Nat} (hw : I (ad 10) 12 = nI w) (hw2 : w < 2) (hnn : I (ad 31) w = nI nn) (h40 : nn ≤ 40) (t : Int32) : ol_M l D cA yX11_isNode cX11_isNode 2 (some FieldType.boolean) (ol_r 1 0 0) [.ref (ad 10), .int t] ro I F (ol_ei (ol_p (ol_k nn t)) ro I F) := by
  refine ol_M.of (by decide +kernel) (Nat.le_of_ble_eq_true rfl) (by simp [Value.category, ol_rfc]) ?_
  intro p e s m args below meth c C hret hlk hin
  have hm : ol_is ro (ad 10) (.inl 9) := hL.is 10 (by decide) (by decide) rfl
  have f_nodes : F (ad 10) 13 = some (ad 31) := hL.mf 13 31 (by decide)
  have i_nodes : ol_is ro (ad 31) (.inr (0, 2)) := hL.is 31 (by decide) (by decide) rfl
  refine ol_iload_n C dX11_isNode_0 rfl rfl ?_
  refine ol_iconst (v := 0) C dX11_isNode_1 (by decide) ?_
  refine ol_aload_n C dX11_isNode_2 rfl rfl (by first | exact ol_isq_r _ | exact ol_isq_q _ | exact ol_isq_n) ?_
  refine ol_gR (k := 13) C (by assumption) rfl rfl wd_593 (.inl rfl) dX11_isNode_3 ?_
  refine ol_rf (by assumption) ?_
  refine ol_aload_n C dX11_isNode_6 rfl rfl (by first | exact ol_isq_r _ | exact ol_isq_q _ | exact ol_isq_n) ?_
  refine ol_gI (k := 12) C (by assumption) rfl rfl wd_592 (.inl rfl) dX11_isNode_7 ?_
  refine ol_lI w C (by assumption) hw hw2 (by decide) dX11_isNode_10 ?_
  refine ol_iconst (v := 1) C dX11_isNode_11 (by decide) ?_
  refine ol_isub C dX11_isNode_12 ?_
  refine ol_callS C (mm_in l D cA t 0 (I (ad 31) w - 1)) wd_674 wd_4 wd_672 wd_673 mh_X11_in (by decide) rfl (by first | exact Nat.le_of_ble_eq_true rfl | simp [ol_rfc, Value.category]) dX11_isNode_13 (ol_xi ?_)
  exact ol_iret C hret hlk (ol_p_nar _) (by decide) (by decide) dX11_isNode_16 ⟨by rw [hnn, ol_p_c (ol_k_m1 (ol_40 h40))], rfl, rfl, rfl⟩

set_option maxRecDepth 100000 in
set_option maxHeartbeats 4000000 in
theorem mm_of (l : Launch) (D : va_G) (cA : Nat → ClassId) {ro : Nat → Nat} {I : Nat → Nat → Int32} {F : Nat → Nat → Option Nat} {ad : Nat → Nat} (hL : ol_L ro F ad) {w nn : Nat} (hw : I (ad 10) 12 = nI w) (hw2 : w < 2) (hnn : I (ad 31) w = nI nn) (h40 : nn ≤ 40) (t : Int32) : ol_M l D cA yX11_of cX11_of 2 (some FieldType.int) (ol_r 2 0 0) [.ref (ad 10), .int t] ro I F (ol_ei (ol_if (ol_k nn t) (I (ad 32) (40 * w + t.toNatClampNeg)) (-1000001)) ro I F) := by
  refine ol_M.of (by decide +kernel) (Nat.le_of_ble_eq_true rfl) (by simp [Value.category, ol_rfc]) ?_
  intro p e s m args below meth c C hret hlk hin
  have hm : ol_is ro (ad 10) (.inl 9) := hL.is 10 (by decide) (by decide) rfl
  have f_thingOf : F (ad 10) 14 = some (ad 32) := hL.mf 14 32 (by decide)
  have i_thingOf : ol_is ro (ad 32) (.inr (0, 80)) := hL.is 32 (by decide) (by decide) rfl
  refine ol_aload_n C dX11_of_0 rfl rfl (by first | exact ol_isq_r _ | exact ol_isq_q _ | exact ol_isq_n) ?_
  refine ol_iload_n C dX11_of_1 rfl rfl ?_
  refine ol_callV C (mm_isNode l D cA hL hw hw2 hnn h40 t) hm.1 hm.2 rfl wd_766 wd_4 wd_763 wd_765 wq_22 mh_X11_isNode (by decide) rfl (by first | exact Nat.le_of_ble_eq_true rfl | simp [ol_rfc, Value.category]) dX11_of_2 (ol_xi ?_)
  refine ol_if_eq (tgt := 25) C dX11_of_5 (by decide) (fun c_5 => ?_) (fun c_5 => ?_)
  · have hK := ol_p_0.mp c_5
    refine ol_ldc (v := (-1000001)) C wd_686 dX11_of_25 ?_
    exact ol_iret C hret hlk rfl (by decide) (by decide) dX11_of_27 ⟨by rw [ol_if_f hK], rfl, rfl, rfl⟩
  · have hK := ol_p_n.mp c_5
    obtain ⟨j, hj, ej, hj31⟩ := ol_k_ix hK h40
    have hj40 : j < 40 := by omega
    refine ol_aload_n C dX11_of_8 rfl rfl (by first | exact ol_isq_r _ | exact ol_isq_q _ | exact ol_isq_n) ?_
    refine ol_gR (k := 14) C (by assumption) rfl rfl wd_594 (.inl rfl) dX11_of_9 ?_
    refine ol_rf (by assumption) ?_
    refine ol_bipush (v := 40) C dX11_of_12 (by decide) ?_
    refine ol_aload_n C dX11_of_14 rfl rfl (by first | exact ol_isq_r _ | exact ol_isq_q _ | exact ol_isq_n) ?_
    refine ol_gI (k := 12) C (by assumption) rfl rfl wd_592 (.inl rfl) dX11_of_15 ?_
    refine ol_imul C dX11_of_18 ?_
    refine ol_iload_n C dX11_of_19 rfl rfl ?_
    refine ol_iadd C dX11_of_20 ?_
    refine ol_lI (40 * w + j) C (by assumption) (by rw [hw, ej]; exact ol_ma rfl) (by omega) (by decide) dX11_of_21 ?_
    refine ol_goto (tgt := 27) C dX11_of_22 (by decide) ?_
    exact ol_iret C hret hlk rfl (by decide) (by decide) dX11_of_27 ⟨by rw [ol_if_t hK, ej, nI_clamp hj31], rfl, rfl, rfl⟩

set_option maxRecDepth 100000 in
set_option maxHeartbeats 4000000 in
theorem mm_column (l : Launch) (D : va_G) (cA : Nat → ClassId) {ro : Nat → Nat} {I : Nat → Nat → Int32} {F : Nat → Nat → Option Nat} {ad : Nat → Nat} (hL : ol_L ro F ad) {w nn : Nat} (hw : I (ad 10) 12 = nI w) (hw2 : w < 2) (hnn : I (ad 31) w = nI nn) (h40 : nn ≤ 40) (t : Int32) : ol_M l D cA yX11_column cX11_column 2 (some FieldType.int) (ol_r 2 0 0) [.ref (ad 10), .int t] ro I F (ol_ei (ol_if (ol_k nn t) (I (ad 34) (40 * w + t.toNatClampNeg)) (-1000001)) ro I F) := by
  refine ol_M.of (by decide +kernel) (Nat.le_of_ble_eq_true rfl) (by simp [Value.category, ol_rfc]) ?_
  intro p e s m args below meth c C hret hlk hin
  have hm : ol_is ro (ad 10) (.inl 9) := hL.is 10 (by decide) (by decide) rfl
  have f_columns : F (ad 10) 16 = some (ad 34) := hL.mf 16 34 (by decide)
  have i_columns : ol_is ro (ad 34) (.inr (0, 80)) := hL.is 34 (by decide) (by decide) rfl
  refine ol_aload_n C dX11_column_0 rfl rfl (by first | exact ol_isq_r _ | exact ol_isq_q _ | exact ol_isq_n) ?_
  refine ol_iload_n C dX11_column_1 rfl rfl ?_
  refine ol_callV C (mm_isNode l D cA hL hw hw2 hnn h40 t) hm.1 hm.2 rfl wd_766 wd_4 wd_763 wd_765 wq_22 mh_X11_isNode (by decide) rfl (by first | exact Nat.le_of_ble_eq_true rfl | simp [ol_rfc, Value.category]) dX11_column_2 (ol_xi ?_)
  refine ol_if_eq (tgt := 25) C dX11_column_5 (by decide) (fun c_5 => ?_) (fun c_5 => ?_)
  · have hK := ol_p_0.mp c_5
    refine ol_ldc (v := (-1000001)) C wd_686 dX11_column_25 ?_
    exact ol_iret C hret hlk rfl (by decide) (by decide) dX11_column_27 ⟨by rw [ol_if_f hK], rfl, rfl, rfl⟩
  · have hK := ol_p_n.mp c_5
    obtain ⟨j, hj, ej, hj31⟩ := ol_k_ix hK h40
    have hj40 : j < 40 := by omega
    refine ol_aload_n C dX11_column_8 rfl rfl (by first | exact ol_isq_r _ | exact ol_isq_q _ | exact ol_isq_n) ?_
    refine ol_gR (k := 16) C (by assumption) rfl rfl wd_596 (.inl rfl) dX11_column_9 ?_
    refine ol_rf (by assumption) ?_
    refine ol_bipush (v := 40) C dX11_column_12 (by decide) ?_
    refine ol_aload_n C dX11_column_14 rfl rfl (by first | exact ol_isq_r _ | exact ol_isq_q _ | exact ol_isq_n) ?_
    refine ol_gI (k := 12) C (by assumption) rfl rfl wd_592 (.inl rfl) dX11_column_15 ?_
    refine ol_imul C dX11_column_18 ?_
    refine ol_iload_n C dX11_column_19 rfl rfl ?_
    refine ol_iadd C dX11_column_20 ?_
    refine ol_lI (40 * w + j) C (by assumption) (by rw [hw, ej]; exact ol_ma rfl) (by omega) (by decide) dX11_column_21 ?_
    refine ol_goto (tgt := 27) C dX11_column_22 (by decide) ?_
    exact ol_iret C hret hlk rfl (by decide) (by decide) dX11_column_27 ⟨by rw [ol_if_t hK, ej, nI_clamp hj31], rfl, rfl, rfl⟩

set_option maxRecDepth 100000 in
set_option maxHeartbeats 4000000 in
theorem mm_arcs (l : Launch) (D : va_G) (cA : Nat → ClassId) {ro : Nat → Nat} {I : Nat → Nat → Int32} {F : Nat → Nat → Option Nat} {ad : Nat → Nat} (hL : ol_L ro F ad) {w nn : Nat} (hw : I (ad 10) 12 = nI w) (hw2 : w < 2) (hnn : I (ad 31) w = nI nn) (h40 : nn ≤ 40) (t : Int32) : ol_M l D cA yX11_arcs cX11_arcs 2 (some FieldType.int) (ol_r 2 0 0) [.ref (ad 10), .int t] ro I F (ol_ei (ol_if (ol_k nn t) (I (ad 35) (41 * w + t.toNatClampNeg + 1) - I (ad 35) (41 * w + t.toNatClampNeg)) (-1000001)) ro I F) := by
  refine ol_M.of (by decide +kernel) (Nat.le_of_ble_eq_true rfl) (by simp [Value.category, ol_rfc]) ?_
  intro p e s m args below meth c C hret hlk hin
  have hm : ol_is ro (ad 10) (.inl 9) := hL.is 10 (by decide) (by decide) rfl
  have f_firstArc : F (ad 10) 17 = some (ad 35) := hL.mf 17 35 (by decide)
  have i_firstArc : ol_is ro (ad 35) (.inr (0, 82)) := hL.is 35 (by decide) (by decide) rfl
  refine ol_aload_n C dX11_arcs_0 rfl rfl (by first | exact ol_isq_r _ | exact ol_isq_q _ | exact ol_isq_n) ?_
  refine ol_iload_n C dX11_arcs_1 rfl rfl ?_
  refine ol_callV C (mm_isNode l D cA hL hw hw2 hnn h40 t) hm.1 hm.2 rfl wd_766 wd_4 wd_763 wd_765 wq_22 mh_X11_isNode (by decide) rfl (by first | exact Nat.le_of_ble_eq_true rfl | simp [ol_rfc, Value.category]) dX11_arcs_2 (ol_xi ?_)
  refine ol_if_eq (tgt := 42) C dX11_arcs_5 (by decide) (fun c_5 => ?_) (fun c_5 => ?_)
  · have hK := ol_p_0.mp c_5
    refine ol_ldc (v := (-1000001)) C wd_686 dX11_arcs_42 ?_
    exact ol_iret C hret hlk rfl (by decide) (by decide) dX11_arcs_44 ⟨by rw [ol_if_f hK], rfl, rfl, rfl⟩
  · have hK := ol_p_n.mp c_5
    obtain ⟨j, hj, ej, hj31⟩ := ol_k_ix hK h40
    have hj40 : j < 40 := by omega
    refine ol_aload_n C dX11_arcs_8 rfl rfl (by first | exact ol_isq_r _ | exact ol_isq_q _ | exact ol_isq_n) ?_
    refine ol_gR (k := 17) C (by assumption) rfl rfl wd_597 (.inl rfl) dX11_arcs_9 ?_
    refine ol_rf (by assumption) ?_
    refine ol_bipush (v := 41) C dX11_arcs_12 (by decide) ?_
    refine ol_aload_n C dX11_arcs_14 rfl rfl (by first | exact ol_isq_r _ | exact ol_isq_q _ | exact ol_isq_n) ?_
    refine ol_gI (k := 12) C (by assumption) rfl rfl wd_592 (.inl rfl) dX11_arcs_15 ?_
    refine ol_imul C dX11_arcs_18 ?_
    refine ol_iload_n C dX11_arcs_19 rfl rfl ?_
    refine ol_iadd C dX11_arcs_20 ?_
    refine ol_iconst (v := 1) C dX11_arcs_21 (by decide) ?_
    refine ol_iadd C dX11_arcs_22 ?_
    refine ol_lI (41 * w + j + 1) C (by assumption) (by rw [hw, ej]; exact (congrArg (· + 1) (ol_ma rfl)).trans (nI_1 _)) (by omega) (by decide) dX11_arcs_23 ?_
    refine ol_aload_n C dX11_arcs_24 rfl rfl (by first | exact ol_isq_r _ | exact ol_isq_q _ | exact ol_isq_n) ?_
    refine ol_gR (k := 17) C (by assumption) rfl rfl wd_597 (.inl rfl) dX11_arcs_25 ?_
    refine ol_rf (by assumption) ?_
    refine ol_bipush (v := 41) C dX11_arcs_28 (by decide) ?_
    refine ol_aload_n C dX11_arcs_30 rfl rfl (by first | exact ol_isq_r _ | exact ol_isq_q _ | exact ol_isq_n) ?_
    refine ol_gI (k := 12) C (by assumption) rfl rfl wd_592 (.inl rfl) dX11_arcs_31 ?_
    refine ol_imul C dX11_arcs_34 ?_
    refine ol_iload_n C dX11_arcs_35 rfl rfl ?_
    refine ol_iadd C dX11_arcs_36 ?_
    refine ol_lI (41 * w + j) C (by assumption) (by rw [hw, ej]; exact ol_ma rfl) (by omega) (by decide) dX11_arcs_37 ?_
    refine ol_isub C dX11_arcs_38 ?_
    refine ol_goto (tgt := 44) C dX11_arcs_39 (by decide) ?_
    exact ol_iret C hret hlk rfl (by decide) (by decide) dX11_arcs_44 ⟨by rw [ol_if_t hK, ej, nI_clamp hj31], rfl, rfl, rfl⟩

set_option maxRecDepth 100000 in
set_option maxHeartbeats 4000000 in
theorem mm_node (l : Launch) (D : va_G) (cA : Nat → ClassId) {ro : Nat → Nat} {I : Nat → Nat → Int32} {F : Nat → Nat → Option Nat} {ad : Nat → Nat} (hL : ol_L ro F ad) {n w nn : Nat} (hn : I (ad 10) 0 = nI n) (h40n : n ≤ 40) (hw : I (ad 10) 12 = nI w) (hw2 : w < 2) (hnn : I (ad 31) w = nI nn) (h40 : nn ≤ 40) (t : Int32) : ol_M l D cA yX11_node cX11_node 2 (some FieldType.int) (ol_r 2 0 0) [.ref (ad 10), .int t] ro I F (ol_ei (ol_if (ol_k n t) (ol_if (nn = 0 ∨ I (ad 33) (40 * w + t.toNatClampNeg) < 0) (-1000009) (I (ad 33) (40 * w + t.toNatClampNeg))) (-1000001)) ro I F) := by
  refine ol_M.of (by decide +kernel) (Nat.le_of_ble_eq_true rfl) (by simp [Value.category, ol_rfc]) ?_
  intro p e s m args below meth c C hret hlk hin
  have hm : ol_is ro (ad 10) (.inl 9) := hL.is 10 (by decide) (by decide) rfl
  have f_nodes : F (ad 10) 13 = some (ad 31) := hL.mf 13 31 (by decide)
  have i_nodes : ol_is ro (ad 31) (.inr (0, 2)) := hL.is 31 (by decide) (by decide) rfl
  have f_nodeOf : F (ad 10) 15 = some (ad 33) := hL.mf 15 33 (by decide)
  have i_nodeOf : ol_is ro (ad 33) (.inr (0, 80)) := hL.is 33 (by decide) (by decide) rfl
  refine ol_aload_n C dX11_node_0 rfl rfl (by first | exact ol_isq_r _ | exact ol_isq_q _ | exact ol_isq_n) ?_
  refine ol_iload_n C dX11_node_1 rfl rfl ?_
  refine ol_callV C (mm_isThing l D cA hL hn h40n t) hm.1 hm.2 rfl wd_685 wd_4 wd_682 wd_684 wq_12 mh_X11_isThing (by decide) rfl (by first | exact Nat.le_of_ble_eq_true rfl | simp [ol_rfc, Value.category]) dX11_node_2 (ol_xi ?_)
  refine ol_if_ne (tgt := 11) C dX11_node_5 (by decide) (fun c_5 => ?_) (fun c_5 => ?_)
  · have hK := ol_p_n.mp c_5
    obtain ⟨j, hj, ej, hj31⟩ := ol_k_ix hK h40n
    have hj40 : j < 40 := by omega
    refine ol_aload_n C dX11_node_11 rfl rfl (by first | exact ol_isq_r _ | exact ol_isq_q _ | exact ol_isq_n) ?_
    refine ol_gR (k := 13) C (by assumption) rfl rfl wd_593 (.inl rfl) dX11_node_12 ?_
    refine ol_rf (by assumption) ?_
    refine ol_aload_n C dX11_node_15 rfl rfl (by first | exact ol_isq_r _ | exact ol_isq_q _ | exact ol_isq_n) ?_
    refine ol_gI (k := 12) C (by assumption) rfl rfl wd_592 (.inl rfl) dX11_node_16 ?_
    refine ol_lI w C (by assumption) hw hw2 (by decide) dX11_node_19 ?_
    refine ol_if_eq (tgt := 40) C dX11_node_20 (by decide) (fun c_20 => ?_) (fun c_20 => ?_)
    · have h0 : nn = 0 := ol_nI0 (hnn ▸ c_20) h40
      refine ol_ldc (v := (-1000009)) C wd_677 dX11_node_40 ?_
      refine ol_goto (tgt := 59) C dX11_node_42 (by decide) ?_
      exact ol_iret C hret hlk rfl (by decide) (by decide) dX11_node_59 ⟨by rw [ol_if_t hK, ol_if_t (Or.inl h0)], rfl, rfl, rfl⟩
    · have h0 : ¬ nn = 0 := fun q => c_20 (by rw [hnn, q]; rfl)
      refine ol_aload_n C dX11_node_23 rfl rfl (by first | exact ol_isq_r _ | exact ol_isq_q _ | exact ol_isq_n) ?_
      refine ol_gR (k := 15) C (by assumption) rfl rfl wd_595 (.inl rfl) dX11_node_24 ?_
      refine ol_rf (by assumption) ?_
      refine ol_bipush (v := 40) C dX11_node_27 (by decide) ?_
      refine ol_aload_n C dX11_node_29 rfl rfl (by first | exact ol_isq_r _ | exact ol_isq_q _ | exact ol_isq_n) ?_
      refine ol_gI (k := 12) C (by assumption) rfl rfl wd_592 (.inl rfl) dX11_node_30 ?_
      refine ol_imul C dX11_node_33 ?_
      refine ol_iload_n C dX11_node_34 rfl rfl ?_
      refine ol_iadd C dX11_node_35 ?_
      refine ol_lI (40 * w + j) C (by assumption) (by rw [hw, ej]; exact ol_ma rfl) (by omega) (by decide) dX11_node_36 ?_
      refine ol_if_ge (tgt := 45) C dX11_node_37 (by decide) (fun c_37 => ?_) (fun c_37 => ?_)
      · refine ol_aload_n C dX11_node_45 rfl rfl (by first | exact ol_isq_r _ | exact ol_isq_q _ | exact ol_isq_n) ?_
        refine ol_gR (k := 15) C (by assumption) rfl rfl wd_595 (.inl rfl) dX11_node_46 ?_
        refine ol_rf (by assumption) ?_
        refine ol_bipush (v := 40) C dX11_node_49 (by decide) ?_
        refine ol_aload_n C dX11_node_51 rfl rfl (by first | exact ol_isq_r _ | exact ol_isq_q _ | exact ol_isq_n) ?_
        refine ol_gI (k := 12) C (by assumption) rfl rfl wd_592 (.inl rfl) dX11_node_52 ?_
        refine ol_imul C dX11_node_55 ?_
        refine ol_iload_n C dX11_node_56 rfl rfl ?_
        refine ol_iadd C dX11_node_57 ?_
        refine ol_lI (40 * w + j) C (by assumption) (by rw [hw, ej]; exact ol_ma rfl) (by omega) (by decide) dX11_node_58 ?_
        exact ol_iret C hret hlk rfl (by decide) (by decide) dX11_node_59 ⟨by rw [ol_if_t hK, ej, nI_clamp hj31, ol_if_f (fun q => q.elim h0 (fun z => ol_nlt c_37 z))], rfl, rfl, rfl⟩
      · refine ol_ldc (v := (-1000009)) C wd_677 dX11_node_40 ?_
        refine ol_goto (tgt := 59) C dX11_node_42 (by decide) ?_
        exact ol_iret C hret hlk rfl (by decide) (by decide) dX11_node_59 ⟨by rw [ol_if_t hK, ej, nI_clamp hj31, ol_if_t (Or.inr (ol_nge c_37))], rfl, rfl, rfl⟩
  · have hK := ol_p_0.mp c_5
    refine ol_ldc (v := (-1000001)) C wd_686 dX11_node_8 ?_
    exact ol_iret C hret hlk rfl (by decide) (by decide) dX11_node_10 ⟨by rw [ol_if_f hK], rfl, rfl, rfl⟩

set_option maxRecDepth 100000 in
set_option maxHeartbeats 4000000 in
theorem mm_holes (l : Launch) (D : va_G) (cA : Nat → ClassId) {ro : Nat → Nat} {I : Nat → Nat → Int32} {F : Nat → Nat → Option Nat} {ad : Nat → Nat} (hL : ol_L ro F ad) {w nn : Nat} (hw : I (ad 10) 12 = nI w) (hw2 : w < 2) (hnn : I (ad 31) w = nI nn) (h40 : nn ≤ 40)  : ol_M l D cA yX11_holes cX11_holes 1 (some FieldType.int) (ol_r 0 0 0) [.ref (ad 10)] ro I F (ol_ei (ol_if (nn = 0) 0 (I (ad 40) w)) ro I F) := by
  refine ol_M.of (by decide +kernel) (Nat.le_of_ble_eq_true rfl) (by simp [Value.category, ol_rfc]) ?_
  intro p e s m args below meth c C hret hlk hin
  have hm : ol_is ro (ad 10) (.inl 9) := hL.is 10 (by decide) (by decide) rfl
  have f_nodes : F (ad 10) 13 = some (ad 31) := hL.mf 13 31 (by decide)
  have i_nodes : ol_is ro (ad 31) (.inr (0, 2)) := hL.is 31 (by decide) (by decide) rfl
  have f_holeMany : F (ad 10) 22 = some (ad 40) := hL.mf 22 40 (by decide)
  have i_holeMany : ol_is ro (ad 40) (.inr (0, 2)) := hL.is 40 (by decide) (by decide) rfl
  refine ol_aload_n C dX11_holes_0 rfl rfl (by first | exact ol_isq_r _ | exact ol_isq_q _ | exact ol_isq_n) ?_
  refine ol_gR (k := 13) C (by assumption) rfl rfl wd_593 (.inl rfl) dX11_holes_1 ?_
  refine ol_rf (by assumption) ?_
  refine ol_aload_n C dX11_holes_4 rfl rfl (by first | exact ol_isq_r _ | exact ol_isq_q _ | exact ol_isq_n) ?_
  refine ol_gI (k := 12) C (by assumption) rfl rfl wd_592 (.inl rfl) dX11_holes_5 ?_
  refine ol_lI w C (by assumption) hw hw2 (by decide) dX11_holes_8 ?_
  refine ol_if_ne (tgt := 16) C dX11_holes_9 (by decide) (fun c_9 => ?_) (fun c_9 => ?_)
  · have h0 : ¬ nn = 0 := fun q => c_9 (by rw [hnn, q]; rfl)
    refine ol_aload_n C dX11_holes_16 rfl rfl (by first | exact ol_isq_r _ | exact ol_isq_q _ | exact ol_isq_n) ?_
    refine ol_gR (k := 22) C (by assumption) rfl rfl wd_602 (.inl rfl) dX11_holes_17 ?_
    refine ol_rf (by assumption) ?_
    refine ol_aload_n C dX11_holes_20 rfl rfl (by first | exact ol_isq_r _ | exact ol_isq_q _ | exact ol_isq_n) ?_
    refine ol_gI (k := 12) C (by assumption) rfl rfl wd_592 (.inl rfl) dX11_holes_21 ?_
    refine ol_lI w C (by assumption) hw hw2 (by decide) dX11_holes_24 ?_
    exact ol_iret C hret hlk rfl (by decide) (by decide) dX11_holes_25 ⟨by rw [ol_if_f h0], rfl, rfl, rfl⟩
  · have h0 : nn = 0 := ol_nI0 (hnn ▸ c_9) h40
    refine ol_iconst (v := 0) C dX11_holes_12 (by decide) ?_
    refine ol_goto (tgt := 25) C dX11_holes_13 (by decide) ?_
    exact ol_iret C hret hlk rfl (by decide) (by decide) dX11_holes_25 ⟨by rw [ol_if_t h0], rfl, rfl, rfl⟩

set_option maxRecDepth 100000 in
set_option maxHeartbeats 4000000 in
theorem mm_asked (l : Launch) (D : va_G) (cA : Nat → ClassId) {ro : Nat → Nat} {I : Nat → Nat → Int32} {F : Nat → Nat → Option Nat} {ad : Nat → Nat} (hL : ol_L ro F ad) {n : Nat} (hn : I (ad 10) 0 = nI n) (h40 : n ≤ 40) (t : Int32) : ol_M l D cA yX11_asked cX11_asked 2 (some FieldType.int) (ol_r 2 0 0) [.ref (ad 10), .int t] ro I F (ol_ei (ol_if (ol_k n t) (I (ad 28) t.toNatClampNeg) (-1000001)) ro I F) := by
  refine ol_M.of (by decide +kernel) (Nat.le_of_ble_eq_true rfl) (by simp [Value.category, ol_rfc]) ?_
  intro p e s m args below meth c C hret hlk hin
  have hm : ol_is ro (ad 10) (.inl 9) := hL.is 10 (by decide) (by decide) rfl
  have f_askedOf : F (ad 10) 7 = some (ad 28) := hL.mf 7 28 (by decide)
  have i_askedOf : ol_is ro (ad 28) (.inr (0, 40)) := hL.is 28 (by decide) (by decide) rfl
  refine ol_aload_n C dX11_asked_0 rfl rfl (by first | exact ol_isq_r _ | exact ol_isq_q _ | exact ol_isq_n) ?_
  refine ol_iload_n C dX11_asked_1 rfl rfl ?_
  refine ol_callV C (mm_isThing l D cA hL hn h40 t) hm.1 hm.2 rfl wd_685 wd_4 wd_682 wd_684 wq_12 mh_X11_isThing (by decide) rfl (by first | exact Nat.le_of_ble_eq_true rfl | simp [ol_rfc, Value.category]) dX11_asked_2 (ol_xi ?_)
  refine ol_if_eq (tgt := 17) C dX11_asked_5 (by decide) (fun c_5 => ?_) (fun c_5 => ?_)
  · have hK := ol_p_0.mp c_5
    refine ol_ldc (v := (-1000001)) C wd_686 dX11_asked_17 ?_
    exact ol_iret C hret hlk rfl (by decide) (by decide) dX11_asked_19 ⟨by rw [ol_if_f hK], rfl, rfl, rfl⟩
  · have hK := ol_p_n.mp c_5
    obtain ⟨j, hj, rfl, hj31⟩ := ol_k_ix hK h40
    have hj40 : j < 40 := by omega
    refine ol_aload_n C dX11_asked_8 rfl rfl (by first | exact ol_isq_r _ | exact ol_isq_q _ | exact ol_isq_n) ?_
    refine ol_gR (k := 7) C (by assumption) rfl rfl wd_587 (.inl rfl) dX11_asked_9 ?_
    refine ol_rf (by assumption) ?_
    refine ol_iload_n C dX11_asked_12 rfl rfl ?_
    refine ol_lI j C (by assumption) rfl hj40 (by decide) dX11_asked_13 ?_
    refine ol_goto (tgt := 19) C dX11_asked_14 (by decide) ?_
    exact ol_iret C hret hlk rfl (by decide) (by decide) dX11_asked_19 ⟨by rw [ol_if_t hK, nI_clamp hj31], rfl, rfl, rfl⟩

set_option maxRecDepth 100000 in
set_option maxHeartbeats 4000000 in
theorem mm_count (l : Launch) (D : va_G) (cA : Nat → ClassId) {ro : Nat → Nat} {I : Nat → Nat → Int32} {F : Nat → Nat → Option Nat} {ad : Nat → Nat} (hL : ol_L ro F ad) {w nn : Nat} (hw : I (ad 10) 12 = nI w) (hw2 : w < 2) (hnn : I (ad 31) w = nI nn) (h40 : nn ≤ 40) (t : Int32) : ol_M l D cA yX11_count cX11_count 2 (some FieldType.int) (ol_r 0 0 0) [.ref (ad 10), .int t] ro I F (ol_ei (ol_if (t = 0) (I (ad 10) 0) (ol_if (t = 1) (nI nn) (ol_if (t = 2) (ol_if (nn = 0) 0 (I (ad 36) w)) (ol_if (t = 3) (I (ad 10) 23) (-1000002))))) ro I F) := by
  refine ol_M.of (by decide +kernel) (Nat.le_of_ble_eq_true rfl) (by simp [Value.category, ol_rfc]) ?_
  intro p e s m args below meth c C hret hlk hin
  have hm : ol_is ro (ad 10) (.inl 9) := hL.is 10 (by decide) (by decide) rfl
  have f_nodes : F (ad 10) 13 = some (ad 31) := hL.mf 13 31 (by decide)
  have i_nodes : ol_is ro (ad 31) (.inr (0, 2)) := hL.is 31 (by decide) (by decide) rfl
  have f_arcsIn : F (ad 10) 18 = some (ad 36) := hL.mf 18 36 (by decide)
  have i_arcsIn : ol_is ro (ad 36) (.inr (0, 2)) := hL.is 36 (by decide) (by decide) rfl
  refine ol_iload_n C dX11_count_0 rfl rfl ?_
  by_cases s_1_0 : t = 0
  · subst s_1_0
    refine ol_table_in (tgt := 32) C dX11_count_1 (by decide) (by decide) rfl (by decide) ?_
    refine ol_aload_n C dX11_count_32 rfl rfl (by first | exact ol_isq_r _ | exact ol_isq_q _ | exact ol_isq_n) ?_
    refine ol_gI (k := 0) C (by assumption) rfl rfl wd_580 (.inl rfl) dX11_count_33 ?_
    exact ol_iret C hret hlk rfl (by decide) (by decide) dX11_count_36 ⟨by rw [ol_if_t rfl], rfl, rfl, rfl⟩
  by_cases s_1_1 : t = 1
  · subst s_1_1
    refine ol_table_in (tgt := 37) C dX11_count_1 (by decide) (by decide) rfl (by decide) ?_
    refine ol_aload_n C dX11_count_37 rfl rfl (by first | exact ol_isq_r _ | exact ol_isq_q _ | exact ol_isq_n) ?_
    refine ol_gR (k := 13) C (by assumption) rfl rfl wd_593 (.inl rfl) dX11_count_38 ?_
    refine ol_rf (by assumption) ?_
    refine ol_aload_n C dX11_count_41 rfl rfl (by first | exact ol_isq_r _ | exact ol_isq_q _ | exact ol_isq_n) ?_
    refine ol_gI (k := 12) C (by assumption) rfl rfl wd_592 (.inl rfl) dX11_count_42 ?_
    refine ol_lI w C (by assumption) hw hw2 (by decide) dX11_count_45 ?_
    exact ol_iret C hret hlk rfl (by decide) (by decide) dX11_count_46 ⟨by rw [ol_if_f (by decide), ol_if_t rfl, hnn], rfl, rfl, rfl⟩
  by_cases s_1_2 : t = 2
  · subst s_1_2
    refine ol_table_in (tgt := 47) C dX11_count_1 (by decide) (by decide) rfl (by decide) ?_
    refine ol_aload_n C dX11_count_47 rfl rfl (by first | exact ol_isq_r _ | exact ol_isq_q _ | exact ol_isq_n) ?_
    refine ol_gR (k := 13) C (by assumption) rfl rfl wd_593 (.inl rfl) dX11_count_48 ?_
    refine ol_rf (by assumption) ?_
    refine ol_aload_n C dX11_count_51 rfl rfl (by first | exact ol_isq_r _ | exact ol_isq_q _ | exact ol_isq_n) ?_
    refine ol_gI (k := 12) C (by assumption) rfl rfl wd_592 (.inl rfl) dX11_count_52 ?_
    refine ol_lI w C (by assumption) hw hw2 (by decide) dX11_count_55 ?_
    refine ol_if_ne (tgt := 63) C dX11_count_56 (by decide) (fun c_56 => ?_) (fun c_56 => ?_)
    · have h0 : ¬ nn = 0 := fun q => c_56 (by rw [hnn, q]; rfl)
      refine ol_aload_n C dX11_count_63 rfl rfl (by first | exact ol_isq_r _ | exact ol_isq_q _ | exact ol_isq_n) ?_
      refine ol_gR (k := 18) C (by assumption) rfl rfl wd_598 (.inl rfl) dX11_count_64 ?_
      refine ol_rf (by assumption) ?_
      refine ol_aload_n C dX11_count_67 rfl rfl (by first | exact ol_isq_r _ | exact ol_isq_q _ | exact ol_isq_n) ?_
      refine ol_gI (k := 12) C (by assumption) rfl rfl wd_592 (.inl rfl) dX11_count_68 ?_
      refine ol_lI w C (by assumption) hw hw2 (by decide) dX11_count_71 ?_
      exact ol_iret C hret hlk rfl (by decide) (by decide) dX11_count_72 ⟨by rw [ol_if_f (by decide), ol_if_f (by decide), ol_if_t rfl, ol_if_f h0], rfl, rfl, rfl⟩
    · have h0 : nn = 0 := ol_nI0 (hnn ▸ c_56) h40
      refine ol_iconst (v := 0) C dX11_count_59 (by decide) ?_
      refine ol_goto (tgt := 72) C dX11_count_60 (by decide) ?_
      exact ol_iret C hret hlk rfl (by decide) (by decide) dX11_count_72 ⟨by rw [ol_if_f (by decide), ol_if_f (by decide), ol_if_t rfl, ol_if_t h0], rfl, rfl, rfl⟩
  by_cases s_1_3 : t = 3
  · subst s_1_3
    refine ol_table_in (tgt := 73) C dX11_count_1 (by decide) (by decide) rfl (by decide) ?_
    refine ol_aload_n C dX11_count_73 rfl rfl (by first | exact ol_isq_r _ | exact ol_isq_q _ | exact ol_isq_n) ?_
    refine ol_gI (k := 23) C (by assumption) rfl rfl wd_603 (.inl rfl) dX11_count_74 ?_
    exact ol_iret C hret hlk rfl (by decide) (by decide) dX11_count_77 ⟨by rw [ol_if_f (by decide), ol_if_f (by decide), ol_if_f (by decide), ol_if_t rfl], rfl, rfl, rfl⟩
  refine ol_table_out (x := t) (tgt := 78) C dX11_count_1 (by have := lv_neT s_1_0 (a := 0) rfl; have := lv_neT s_1_1 (a := 1) rfl; have := lv_neT s_1_2 (a := 2) rfl; have := lv_neT s_1_3 (a := 3) rfl; omega) (by decide) ?_
  refine ol_ldc (v := (-1000002)) C wd_675 dX11_count_78 ?_
  exact ol_iret C hret hlk rfl (by decide) (by decide) dX11_count_80 ⟨by rw [ol_if_f s_1_0, ol_if_f s_1_1, ol_if_f s_1_2, ol_if_f s_1_3], rfl, rfl, rfl⟩

set_option maxRecDepth 100000 in
set_option maxHeartbeats 4000000 in
theorem mm_refused (l : Launch) (D : va_G) (cA : Nat → ClassId) {ro : Nat → Nat} {I : Nat → Nat → Int32} {F : Nat → Nat → Option Nat} {ad : Nat → Nat} (hL : ol_L ro F ad) (t : Int32) : ol_M l D cA yX11_refused cX11_refused 2 (some FieldType.int) (ol_r 1 0 0) [.ref (ad 10), .int t] ro I F (ol_ei (ol_if (ol_k 3 t) (ol_if (I (ad 10) 26 = 0) (-1000009) (ol_if (t = 0) (I (ad 10) 24) (ol_if (t = 1) (I (ad 10) 25) (I (ad 10) 26)))) (-1000002)) ro I F) := by
  refine ol_M.of (by decide +kernel) (Nat.le_of_ble_eq_true rfl) (by simp [Value.category, ol_rfc]) ?_
  intro p e s m args below meth c C hret hlk hin
  have hm : ol_is ro (ad 10) (.inl 9) := hL.is 10 (by decide) (by decide) rfl
  refine ol_iload_n C dX11_refused_0 rfl rfl ?_
  refine ol_iconst (v := 0) C dX11_refused_1 (by decide) ?_
  refine ol_iconst (v := 2) C dX11_refused_2 (by decide) ?_
  refine ol_callS C (mm_in l D cA t 0 2) wd_674 wd_4 wd_672 wd_673 mh_X11_in (by decide) rfl (by first | exact Nat.le_of_ble_eq_true rfl | simp [ol_rfc, Value.category]) dX11_refused_3 (ol_xi ?_)
  refine ol_if_ne (tgt := 12) C dX11_refused_6 (by decide) (fun c_6 => ?_) (fun c_6 => ?_)
  · have hK := (ol_k_2).mp (ol_p_n.mp c_6)
    refine ol_aload_n C dX11_refused_12 rfl rfl (by first | exact ol_isq_r _ | exact ol_isq_q _ | exact ol_isq_n) ?_
    refine ol_gI (k := 26) C (by assumption) rfl rfl wd_606 (.inl rfl) dX11_refused_13 ?_
    refine ol_if_ne (tgt := 24) C dX11_refused_16 (by decide) (fun c_16 => ?_) (fun c_16 => ?_)
    · refine ol_iload_n C dX11_refused_24 rfl rfl ?_
      refine ol_if_ne (tgt := 35) C dX11_refused_25 (by decide) (fun c_25 => ?_) (fun c_25 => ?_)
      · refine ol_iload_n C dX11_refused_35 rfl rfl ?_
        refine ol_iconst (v := 1) C dX11_refused_36 (by decide) ?_
        refine ol_icmp_ne (tgt := 47) C dX11_refused_37 (by decide) (fun c_37 => ?_) (fun c_37 => ?_)
        · refine ol_aload_n C dX11_refused_47 rfl rfl (by first | exact ol_isq_r _ | exact ol_isq_q _ | exact ol_isq_n) ?_
          refine ol_gI (k := 26) C (by assumption) rfl rfl wd_606 (.inl rfl) dX11_refused_48 ?_
          exact ol_iret C hret hlk rfl (by decide) (by decide) dX11_refused_51 ⟨by rw [ol_if_t hK, ol_if_f c_16, ol_if_f c_25, ol_if_f c_37], rfl, rfl, rfl⟩
        · refine ol_aload_n C dX11_refused_40 rfl rfl (by first | exact ol_isq_r _ | exact ol_isq_q _ | exact ol_isq_n) ?_
          refine ol_gI (k := 25) C (by assumption) rfl rfl wd_605 (.inl rfl) dX11_refused_41 ?_
          refine ol_goto (tgt := 51) C dX11_refused_44 (by decide) ?_
          exact ol_iret C hret hlk rfl (by decide) (by decide) dX11_refused_51 ⟨by rw [ol_if_t hK, ol_if_f c_16, ol_if_f c_25, ol_if_t c_37], rfl, rfl, rfl⟩
      · refine ol_aload_n C dX11_refused_28 rfl rfl (by first | exact ol_isq_r _ | exact ol_isq_q _ | exact ol_isq_n) ?_
        refine ol_gI (k := 24) C (by assumption) rfl rfl wd_604 (.inl rfl) dX11_refused_29 ?_
        refine ol_goto (tgt := 51) C dX11_refused_32 (by decide) ?_
        exact ol_iret C hret hlk rfl (by decide) (by decide) dX11_refused_51 ⟨by rw [ol_if_t hK, ol_if_f c_16, ol_if_t c_25], rfl, rfl, rfl⟩
    · refine ol_ldc (v := (-1000009)) C wd_677 dX11_refused_19 ?_
      refine ol_goto (tgt := 51) C dX11_refused_21 (by decide) ?_
      exact ol_iret C hret hlk rfl (by decide) (by decide) dX11_refused_51 ⟨by rw [ol_if_t hK, ol_if_t c_16], rfl, rfl, rfl⟩
  · have hK : ¬ ol_k 3 t := fun q => ol_p_0.mp c_6 (ol_k_2.mpr q)
    refine ol_ldc (v := (-1000002)) C wd_675 dX11_refused_9 ?_
    exact ol_iret C hret hlk rfl (by decide) (by decide) dX11_refused_11 ⟨by rw [ol_if_f hK], rfl, rfl, rfl⟩

set_option maxRecDepth 100000 in
set_option maxHeartbeats 4000000 in
theorem mm_beginAll (l : Launch) (D : va_G) (cA : Nat → ClassId) {ro : Nat → Nat} {I : Nat → Nat → Int32} {F : Nat → Nat → Option Nat} {ad : Nat → Nat} (hL : ol_L ro F ad) {w : Nat} (hw : I (ad 10) 12 = nI w) (hw2 : w < 2) : ol_M l D cA yX11_beginAll cX11_beginAll 1 none (ol_r 0 0 0) [.ref (ad 10)] ro I F (ol_ev ro (ol_u2 (ol_u2 (ol_u2 (ol_u2 I (ad 10) 0 0) (ad 31) w 0) (ad 10) 23 0) (ad 10) 26 0) F) := by
  refine ol_M.of (by decide +kernel) (Nat.le_of_ble_eq_true rfl) (by simp [Value.category, ol_rfc]) ?_
  intro p e s m args below meth c C hret hlk hin
  have hm : ol_is ro (ad 10) (.inl 9) := hL.is 10 (by decide) (by decide) rfl
  have f_nodes : F (ad 10) 13 = some (ad 31) := hL.mf 13 31 (by decide)
  have i_nodes : ol_is ro (ad 31) (.inr (0, 2)) := hL.is 31 (by decide) (by decide) rfl
  refine ol_aload_n C dX11_beginAll_0 rfl rfl (by first | exact ol_isq_r _ | exact ol_isq_q _ | exact ol_isq_n) ?_
  refine ol_iconst (v := 0) C dX11_beginAll_1 (by decide) ?_
  refine ol_pI (k := 0) C (by assumption) rfl rfl wd_580 (.inl rfl) rfl rfl dX11_beginAll_2 ?_
  refine ol_aload_n C dX11_beginAll_5 rfl rfl (by first | exact ol_isq_r _ | exact ol_isq_q _ | exact ol_isq_n) ?_
  refine ol_gR (k := 13) C (by assumption) rfl rfl wd_593 (.inl rfl) dX11_beginAll_6 ?_
  refine ol_rf (by assumption) ?_
  refine ol_aload_n C dX11_beginAll_9 rfl rfl (by first | exact ol_isq_r _ | exact ol_isq_q _ | exact ol_isq_n) ?_
  refine ol_gI (k := 12) C (by assumption) rfl rfl wd_592 (.inl rfl) dX11_beginAll_10 ?_
  refine ol_iconst (v := 0) C dX11_beginAll_13 (by decide) ?_
  refine ol_sI w C (by assumption) ((ol_u2_k I _ (by decide)).trans hw) hw2 (by decide) dX11_beginAll_14 ?_
  refine ol_aload_n C dX11_beginAll_15 rfl rfl (by first | exact ol_isq_r _ | exact ol_isq_q _ | exact ol_isq_n) ?_
  refine ol_iconst (v := 0) C dX11_beginAll_16 (by decide) ?_
  refine ol_pI (k := 23) C (by assumption) rfl rfl wd_603 (.inl rfl) rfl rfl dX11_beginAll_17 ?_
  refine ol_aload_n C dX11_beginAll_20 rfl rfl (by first | exact ol_isq_r _ | exact ol_isq_q _ | exact ol_isq_n) ?_
  refine ol_iconst (v := 0) C dX11_beginAll_21 (by decide) ?_
  refine ol_pI (k := 26) C (by assumption) rfl rfl wd_606 (.inl rfl) rfl rfl dX11_beginAll_22 ?_
  exact ol_vret C hret hlk (by decide) (by decide) dX11_beginAll_25 ⟨rfl, rfl, rfl, rfl⟩

set_option maxRecDepth 100000 in
set_option maxHeartbeats 4000000 in
theorem mm_clear (l : Launch) (D : va_G) (cA : Nat → ClassId) {ro : Nat → Nat} {I : Nat → Nat → Int32} {F : Nat → Nat → Option Nat} {ad : Nat → Nat} (hL : ol_L ro F ad) {w : Nat} (hw : I (ad 10) 12 = nI w) (hw2 : w < 2) : ol_M l D cA yX11_clear cX11_clear 2 (some FieldType.int) (ol_r 1 0 0) [.ref (ad 10)] ro I F (ol_ei (I (ad 10) 0) ro (ol_u2 (ol_u2 (ol_u2 (ol_u2 I (ad 10) 0 0) (ad 31) w 0) (ad 10) 23 0) (ad 10) 26 0) F) := by
  refine ol_M.of (by decide +kernel) (Nat.le_of_ble_eq_true rfl) (by simp [Value.category, ol_rfc]) ?_
  intro p e s m args below meth c C hret hlk hin
  have hm : ol_is ro (ad 10) (.inl 9) := hL.is 10 (by decide) (by decide) rfl
  refine ol_aload_n C dX11_clear_0 rfl rfl (by first | exact ol_isq_r _ | exact ol_isq_q _ | exact ol_isq_n) ?_
  refine ol_gI (k := 0) C (by assumption) rfl rfl wd_580 (.inl rfl) dX11_clear_1 ?_
  refine ol_istore_n C dX11_clear_4 rfl (by decide) ?_
  refine ol_aload_n C dX11_clear_5 rfl rfl (by first | exact ol_isq_r _ | exact ol_isq_q _ | exact ol_isq_n) ?_
  refine ol_callV C (mm_beginAll l D cA hL hw hw2) hm.1 hm.2 rfl wd_579 wd_4 wd_576 wd_578 wq_11 mh_X11_beginAll (by decide) rfl (by first | exact Nat.le_of_ble_eq_true rfl | simp [ol_rfc, Value.category]) dX11_clear_6 (ol_xv ?_)
  refine ol_iload_n C dX11_clear_9 rfl rfl ?_
  exact ol_iret C hret hlk rfl (by decide) (by decide) dX11_clear_10 ⟨rfl, rfl, rfl, rfl⟩

set_option maxRecDepth 100000 in
set_option maxHeartbeats 4000000 in
theorem mm_refuse (l : Launch) (D : va_G) (cA : Nat → ClassId) {ro : Nat → Nat} {I : Nat → Nat → Int32} {F : Nat → Nat → Option Nat} {ad : Nat → Nat} (hL : ol_L ro F ad) (a b d : Int32) : ol_M l D cA yX11_refuse cX11_refuse 4 (some FieldType.int) (ol_r 0 0 0) [.ref (ad 10), .int a, .int b, .int d] ro I F (ol_ei (-1000010 - d) ro (ol_u2 (ol_u2 (ol_u2 (ol_u2 I (ad 10) 24 a) (ad 10) 25 b) (ad 10) 26 d) (ad 10) 23 (I (ad 10) 23 + 1)) F) := by
  refine ol_M.of (by decide +kernel) (Nat.le_of_ble_eq_true rfl) (by simp [Value.category, ol_rfc]) ?_
  intro p e s m args below meth c C hret hlk hin
  have hm : ol_is ro (ad 10) (.inl 9) := hL.is 10 (by decide) (by decide) rfl
  refine ol_aload_n C dX11_refuse_0 rfl rfl (by first | exact ol_isq_r _ | exact ol_isq_q _ | exact ol_isq_n) ?_
  refine ol_iload_n C dX11_refuse_1 rfl rfl ?_
  refine ol_pI (k := 24) C (by assumption) rfl rfl wd_604 (.inl rfl) rfl rfl dX11_refuse_2 ?_
  refine ol_aload_n C dX11_refuse_5 rfl rfl (by first | exact ol_isq_r _ | exact ol_isq_q _ | exact ol_isq_n) ?_
  refine ol_iload_n C dX11_refuse_6 rfl rfl ?_
  refine ol_pI (k := 25) C (by assumption) rfl rfl wd_605 (.inl rfl) rfl rfl dX11_refuse_7 ?_
  refine ol_aload_n C dX11_refuse_10 rfl rfl (by first | exact ol_isq_r _ | exact ol_isq_q _ | exact ol_isq_n) ?_
  refine ol_iload_n C dX11_refuse_11 rfl rfl ?_
  refine ol_pI (k := 26) C (by assumption) rfl rfl wd_606 (.inl rfl) rfl rfl dX11_refuse_12 ?_
  refine ol_aload_n C dX11_refuse_15 rfl rfl (by first | exact ol_isq_r _ | exact ol_isq_q _ | exact ol_isq_n) ?_
  refine ol_dup C dX11_refuse_16 (by first | rfl | exact ol_rfc _) ?_
  refine ol_gI (k := 23) C (by assumption) rfl rfl wd_603 (.inl rfl) dX11_refuse_17 ?_
  rw [show ol_u2 (ol_u2 (ol_u2 I (ad 10) 24 a) (ad 10) 25 b) (ad 10) 26 d (ad 10) 23 = I (ad 10) 23 by rw [ol_u2_k _ _ (by decide), ol_u2_k _ _ (by decide), ol_u2_k _ _ (by decide)]]
  refine ol_iconst (v := 1) C dX11_refuse_20 (by decide) ?_
  refine ol_iadd C dX11_refuse_21 ?_
  refine ol_pI (k := 23) C (by assumption) rfl rfl wd_603 (.inl rfl) rfl rfl dX11_refuse_22 ?_
  refine ol_ldc (v := (-1000010)) C wd_734 dX11_refuse_25 ?_
  refine ol_iload_n C dX11_refuse_27 rfl rfl ?_
  refine ol_isub C dX11_refuse_28 ?_
  exact ol_iret C hret hlk rfl (by decide) (by decide) dX11_refuse_29 ⟨rfl, rfl, rfl, rfl⟩
