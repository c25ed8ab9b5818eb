theorem mm_tKey (l : Launch) (D : va_G) (cA : Nat → ClassId) {ro : Nat → Nat} {I : Nat → Nat → Int32} {F : Nat → Nat → Option Nat} {ad : Nat → Nat} (hL : ol_L ro F ad) {n : Nat} {So : Nat → Nat} {T : Nat → Nat → Int32} {P : Nat → Nat → Option Nat} (hT : ol_MT I ad n So T P) (hV : ol_V n So T P) {t : Nat} (ht : t < n) : ol_M l D cA yX11_tellKey cX11_tellKey 2 (some .int) (ol_r 0 0 0) [.ref (ad 10), .int (nI t)] ro I F (ol_ei (sp_kc So T t) ro (ol_u2 I (ad 10) 9 (T 1 t)) F) := by
  have h40 := hV.1
  obtain ⟨e22, e23, -, e27, -⟩ := hT.2 t ht
  have h := mm_tellKey l D cA hL (I := I) (t := t) (by omega)
  have e : ol_p (I (ad 22) t = 6 ∧ I (ad 27) t = 0) = sp_kc So T t := ol_p_c (by rw [e22, e27]; exact and_congr_left (fun _ => ol_nIk (k := 6) (hV.2 t ht).1 (by decide)))
  rw [e, e23] at h
  exact h

theorem mm_tVal (l : Launch) (D : va_G) (cA : Nat → ClassId) {ro : Nat → Nat} {I : Nat → Nat → Int32} {F : Nat → Nat → Option Nat} {ad : Nat → Nat} (hL : ol_L ro F ad) {n : Nat} {So : Nat → Nat} {T : Nat → Nat → Int32} {P : Nat → Nat → Option Nat} (hT : ol_MT I ad n So T P) (hV : ol_V n So T P) {t : Nat} (ht : t < n) : ol_M l D cA yX11_tellValue cX11_tellValue 3 (some .int) (ol_r 0 0 0) [.ref (ad 10), .int (nI t)] ro I F (ol_ei (sp_vc So T t) ro (ol_u2 I (ad 10) 9 (sp_vv So T t)) F) := by
  have h40 := hV.1
  obtain ⟨e22, -, e24, -⟩ := hT.2 t ht
  have h := mm_tellValue l D cA hL (I := I) (t := t) (by omega)
  have s6 := (hV.2 t ht).1
  rw [e22, e24, propext (show (nI (So t) = 3) ↔ So t = 3 from ol_nIk (k := 3) s6 (by decide)), propext (show (nI (So t) = 1) ↔ So t = 1 from ol_nIk (k := 1) s6 (by decide)), propext (show (nI (So t) = 4) ↔ So t = 4 from ol_nIk (k := 4) s6 (by decide))] at h
  exact h

set_option maxRecDepth 100000 in
set_option maxHeartbeats 4000000 in
theorem mm_tells (l : Launch) (D : va_G) (cA : Nat → ClassId) {ro : Nat → Nat} {I : Nat → Nat → Int32} {F : Nat → Nat → Option Nat} {ad : Nat → Nat} (hL : ol_L ro F ad) {n : Nat} {So : Nat → Nat} {T : Nat → Nat → Int32} {P : Nat → Nat → Option Nat} (hT : ol_MT I ad n So T P) (hV : ol_V n So T P) (t w : Int32) : ol_M l D cA yX11_tells cX11_tells 4 (some FieldType.int) (ol_r 2 0 0) [.ref (ad 10), .int t, .int w] ro I F (fun v ro' I' F' => v = some (.int (sp_tl n So T P t w)) ∧ ro' = ro ∧ F' = F ∧ ol_sq ad I I' ) := by
  refine ol_M.of (by decide +kernel) (Nat.le_of_ble_eq_true rfl) (by simp [Value.category, ol_rfc]) ?_
  intro p e s m args below meth c C hret hlk hin
  have hm : ol_is ro (ad 10) (.inl 9) := hL.is 10 (by decide) (by decide) rfl
  have f_sorts : F (ad 10) 1 = some (ad 22) := hL.mf 1 22 (by decide)
  have i_sorts : ol_is ro (ad 22) (.inr (0, 40)) := hL.is 22 (by decide) (by decide) rfl
  have f_links : F (ad 10) 10 = some (ad 30) := hL.mf 10 30 (by decide)
  have i_links : ol_is ro (ad 30) (.inr (0, 6)) := hL.is 30 (by decide) (by decide) rfl
  have h40 := hV.1
  have hn := hT.1
  have n22_10 : ad 22 ≠ ad 10 := hL.ne (by decide) (by decide) (by decide)
  refine ol_aload_n C dX11_tells_0 rfl rfl (by first | exact ol_isq_r _ | exact ol_isq_q _ | exact ol_isq_n) ?_
  refine ol_iload_n C dX11_tells_1 rfl rfl ?_
  refine ol_callV C (mm_isThing l D cA hL hn h40 t) hm.1 hm.2 rfl wd_685 wd_4 wd_682 wd_684 wq_12 mh_X11_isThing (by decide) rfl (by first | exact Nat.le_of_ble_eq_true rfl | simp [ol_rfc, Value.category]) dX11_tells_2 (ol_xi ?_)
  refine ol_if_ne (tgt := 11) C dX11_tells_5 (by decide) (fun c_5 => ?_) (fun c_5 => ?_)
  · have hK := ol_p_n.mp c_5
    obtain ⟨j, hj, rfl, hj31⟩ := ol_k_ix hK h40
    have hj40 : j < 40 := by omega
    obtain ⟨e22, -⟩ := hT.2 j hj
    refine ol_iload_n C dX11_tells_11 rfl rfl ?_
    refine ol_iconst (v := 0) C dX11_tells_12 (by decide) ?_
    refine ol_iconst (v := 2) C dX11_tells_13 (by decide) ?_
    refine ol_callS C (mm_in l D cA w 0 2) wd_674 wd_4 wd_672 wd_673 mh_X11_in (by decide) rfl (by first | exact Nat.le_of_ble_eq_true rfl | simp [ol_rfc, Value.category]) dX11_tells_14 (ol_xi ?_)
    refine ol_if_ne (tgt := 23) C dX11_tells_17 (by decide) (fun c_17 => ?_) (fun c_17 => ?_)
    · have hW := (ol_k_2).mp (ol_p_n.mp c_17)
      refine ol_iload_n C dX11_tells_23 rfl rfl ?_
      refine ol_if_ne (tgt := 35) C dX11_tells_24 (by decide) (fun c_24 => ?_) (fun c_24 => ?_)
      · refine ol_iload_n C dX11_tells_35 rfl rfl ?_
        refine ol_iconst (v := 1) C dX11_tells_36 (by decide) ?_
        refine ol_icmp_ne (tgt := 48) C dX11_tells_37 (by decide) (fun c_37 => ?_) (fun c_37 => ?_)
        · refine ol_aload_n C dX11_tells_48 rfl rfl (by first | exact ol_isq_r _ | exact ol_isq_q _ | exact ol_isq_n) ?_
          refine ol_gR (k := 1) C (by assumption) rfl rfl wd_581 (.inl rfl) dX11_tells_49 ?_
          refine ol_rf (by assumption) ?_
          refine ol_iload_n C dX11_tells_52 rfl rfl ?_
          refine ol_lI j C (by assumption) rfl hj40 (by decide) dX11_tells_53 ?_
          refine ol_ti e22 ?_
          refine ol_iconst (v := 2) C dX11_tells_54 (by decide) ?_
          refine ol_icmp_ne (tgt := 62) C dX11_tells_55 (by decide) (fun c_55 => ?_) (fun c_55 => ?_)
          · have s2 : ¬ So j = 2 := fun q => c_55 (by rw [q]; rfl)
            refine ol_aload_n C dX11_tells_62 rfl rfl (by first | exact ol_isq_r _ | exact ol_isq_q _ | exact ol_isq_n) ?_
            refine ol_iload_n C dX11_tells_63 rfl rfl ?_
            refine ol_callV C (mm_tellLinks l D cA hL hT hV hj) hm.1 hm.2 rfl wd_742 wd_4 wd_739 wd_741 wq_19 mh_X11_tellLinks (by decide) rfl (by first | exact Nat.le_of_ble_eq_true rfl | simp [ol_rfc, Value.category]) dX11_tells_64 (fun v_64 ro_64 I_64 F_64 hh_64 => ?_)
            obtain ⟨rfl, rfl, rfl, q1, q2⟩ := hh_64
            refine ol_st (st' := .int _ :: _) rfl ?_
            refine ol_istore_n C dX11_tells_67 rfl (by decide) ?_
            refine ol_iload_n C dX11_tells_68 rfl rfl ?_
            refine ol_if_le (tgt := 79) C dX11_tells_69 (by decide) (fun c_69 => ?_) (fun c_69 => ?_)
            · have z0 := (sp_l0 _ _ _ _).mp c_69
              obtain ⟨y1, y2⟩ := q2 z0
              refine ol_iload_n C dX11_tells_79 rfl rfl ?_
              refine ol_iconst (v := 2) C dX11_tells_80 (by decide) ?_
              refine ol_icmp_ge (tgt := 91) C dX11_tells_81 (by decide) (fun c_81 => ?_) (fun c_81 => by rcases ol_k3_012 hW with h | h | h; exact absurd h c_24; exact absurd h c_37; rw [h] at c_81; exact absurd (by decide) c_81)
              refine ol_aload_n C dX11_tells_91 rfl rfl (by first | exact ol_isq_r _ | exact ol_isq_q _ | exact ol_isq_n) ?_
              refine ol_gR (k := 1) C (by assumption) rfl rfl wd_581 (.inl rfl) dX11_tells_92 ?_
              refine ol_rf (by assumption) ?_
              refine ol_iload_n C dX11_tells_95 rfl rfl ?_
              refine ol_lI j C (by assumption) rfl hj40 (by decide) dX11_tells_96 ?_
              rw [q1.row hL 22 j (by decide) (by decide) (by decide) (by decide)]
              refine ol_ti e22 ?_
              refine ol_iconst (v := 2) C dX11_tells_97 (by decide) ?_
              refine ol_icmp_ne (tgt := 105) C dX11_tells_98 (by decide) (fun c_98 => ?_) (fun c_98 => absurd ((ol_nIk (k := 2) (hV.2 j hj).1 (by decide)).mp c_98) s2)
              refine ol_aload_n C dX11_tells_105 rfl rfl (by first | exact ol_isq_r _ | exact ol_isq_q _ | exact ol_isq_n) ?_
              refine ol_gI (k := 11) C (by assumption) rfl rfl wd_591 (.inl rfl) dX11_tells_106 ?_
              refine ol_ti y1 ?_
              exact ol_iret C hret hlk rfl (by decide) (by decide) dX11_tells_109 ⟨by unfold sp_tl; rw [ol_if_t hK, nI_clamp hj31, ol_if_t hW, ol_if_f c_24, ol_if_f c_37, ol_if_f s2, ol_if_t z0], rfl, rfl, q1⟩
            · refine ol_ldc (v := (-1000010)) C wd_734 dX11_tells_72 ?_
              refine ol_iload_n C dX11_tells_74 rfl rfl ?_
              refine ol_isub C dX11_tells_75 ?_
              refine ol_goto (tgt := 109) C dX11_tells_76 (by decide) ?_
              exact ol_iret C hret hlk rfl (by decide) (by decide) dX11_tells_109 ⟨by unfold sp_tl; rw [ol_if_t hK, nI_clamp hj31, ol_if_t hW, ol_if_f c_24, ol_if_f c_37, ol_if_f s2, ol_if_f (fun z => c_69 ((sp_l0 _ _ _ _).mpr z))], rfl, rfl, q1⟩
          · have s2 : So j = 2 := (ol_nIk (k := 2) (hV.2 j hj).1 (by decide)).mp c_55
            have q1 := ol_sq_rf ad I
            refine ol_iconst (v := 0) C dX11_tells_58 (by decide) ?_
            refine ol_goto (tgt := 67) C dX11_tells_59 (by decide) ?_
            refine ol_istore_n C dX11_tells_67 rfl (by decide) ?_
            refine ol_iload_n C dX11_tells_68 rfl rfl ?_
            refine ol_if_le (tgt := 79) C dX11_tells_69 (by decide) (fun c_69 => ?_) (fun c_69 => absurd (show (0 : Int32) ≤ 0 by decide) c_69)
            refine ol_iload_n C dX11_tells_79 rfl rfl ?_
            refine ol_iconst (v := 2) C dX11_tells_80 (by decide) ?_
            refine ol_icmp_ge (tgt := 91) C dX11_tells_81 (by decide) (fun c_81 => ?_) (fun c_81 => by rcases ol_k3_012 hW with h | h | h; exact absurd h c_24; exact absurd h c_37; rw [h] at c_81; exact absurd (by decide) c_81)
            refine ol_aload_n C dX11_tells_91 rfl rfl (by first | exact ol_isq_r _ | exact ol_isq_q _ | exact ol_isq_n) ?_
            refine ol_gR (k := 1) C (by assumption) rfl rfl wd_581 (.inl rfl) dX11_tells_92 ?_
            refine ol_rf (by assumption) ?_
            refine ol_iload_n C dX11_tells_95 rfl rfl ?_
            refine ol_lI j C (by assumption) rfl hj40 (by decide) dX11_tells_96 ?_
            refine ol_ti e22 ?_
            refine ol_iconst (v := 2) C dX11_tells_97 (by decide) ?_
            refine ol_icmp_ne (tgt := 105) C dX11_tells_98 (by decide) (fun c_98 => absurd (show nI (So j) = 2 by rw [s2]; rfl) c_98) (fun c_98 => ?_)
            refine ol_iconst (v := 2) C dX11_tells_101 (by decide) ?_
            refine ol_goto (tgt := 109) C dX11_tells_102 (by decide) ?_
            exact ol_iret C hret hlk rfl (by decide) (by decide) dX11_tells_109 ⟨by unfold sp_tl; rw [ol_if_t hK, nI_clamp hj31, ol_if_t hW, ol_if_f c_24, ol_if_f c_37, ol_if_t s2], rfl, rfl, q1⟩
        · refine ol_aload_n C dX11_tells_40 rfl rfl (by first | exact ol_isq_r _ | exact ol_isq_q _ | exact ol_isq_n) ?_
          refine ol_iload_n C dX11_tells_41 rfl rfl ?_
          refine ol_callV C (mm_tVal l D cA hL hT hV hj) hm.1 hm.2 rfl wd_738 wd_4 wd_735 wd_737 wq_18 mh_X11_tellValue (by decide) rfl (by first | exact Nat.le_of_ble_eq_true rfl | simp [ol_rfc, Value.category]) dX11_tells_42 (ol_xi ?_)
          have q1 := (ol_sq_rf ad I).up (sp_vv So T j) (Or.inl ⟨rfl, Or.inl rfl⟩)
          refine ol_goto (tgt := 67) C dX11_tells_45 (by decide) ?_
          refine ol_istore_n C dX11_tells_67 rfl (by decide) ?_
          refine ol_iload_n C dX11_tells_68 rfl rfl ?_
          refine ol_if_le (tgt := 79) C dX11_tells_69 (by decide) (fun c_69 => ?_) (fun c_69 => ?_)
          · refine ol_iload_n C dX11_tells_79 rfl rfl ?_
            refine ol_iconst (v := 2) C dX11_tells_80 (by decide) ?_
            refine ol_icmp_ge (tgt := 91) C dX11_tells_81 (by decide) (fun c_81 => by first | (rw [c_24] at c_81; exact absurd c_81 (by decide)) | (rw [c_37] at c_81; exact absurd c_81 (by decide))) (fun c_81 => ?_)
            refine ol_aload_n C dX11_tells_84 rfl rfl (by first | exact ol_isq_r _ | exact ol_isq_q _ | exact ol_isq_n) ?_
            refine ol_gI (k := 9) C (by assumption) rfl rfl wd_589 (.inl rfl) dX11_tells_85 ?_
            rw [ol_u2_s]
            refine ol_goto (tgt := 109) C dX11_tells_88 (by decide) ?_
            exact ol_iret C hret hlk rfl (by decide) (by decide) dX11_tells_109 ⟨by unfold sp_tl; rw [ol_if_t hK, nI_clamp hj31, ol_if_t hW, ol_if_f c_24, ol_if_t c_37, ol_if_t ((sp_v0 _ _ _).mp c_69)], rfl, rfl, q1⟩
          · refine ol_ldc (v := (-1000010)) C wd_734 dX11_tells_72 ?_
            refine ol_iload_n C dX11_tells_74 rfl rfl ?_
            refine ol_isub C dX11_tells_75 ?_
            refine ol_goto (tgt := 109) C dX11_tells_76 (by decide) ?_
            exact ol_iret C hret hlk rfl (by decide) (by decide) dX11_tells_109 ⟨by unfold sp_tl; rw [ol_if_t hK, nI_clamp hj31, ol_if_t hW, ol_if_f c_24, ol_if_t c_37, ol_if_f (fun z => c_69 ((sp_v0 _ _ _).mpr z))], rfl, rfl, q1⟩
      · refine ol_aload_n C dX11_tells_27 rfl rfl (by first | exact ol_isq_r _ | exact ol_isq_q _ | exact ol_isq_n) ?_
        refine ol_iload_n C dX11_tells_28 rfl rfl ?_
        refine ol_callV C (mm_tKey l D cA hL hT hV hj) hm.1 hm.2 rfl wd_729 wd_4 wd_726 wd_728 wq_16 mh_X11_tellKey (by decide) rfl (by first | exact Nat.le_of_ble_eq_true rfl | simp [ol_rfc, Value.category]) dX11_tells_29 (ol_xi ?_)
        have q1 := (ol_sq_rf ad I).up (T 1 j) (Or.inl ⟨rfl, Or.inl rfl⟩)
        refine ol_goto (tgt := 67) C dX11_tells_32 (by decide) ?_
        refine ol_istore_n C dX11_tells_67 rfl (by decide) ?_
        refine ol_iload_n C dX11_tells_68 rfl rfl ?_
        refine ol_if_le (tgt := 79) C dX11_tells_69 (by decide) (fun c_69 => ?_) (fun c_69 => ?_)
        · refine ol_iload_n C dX11_tells_79 rfl rfl ?_
          refine ol_iconst (v := 2) C dX11_tells_80 (by decide) ?_
          refine ol_icmp_ge (tgt := 91) C dX11_tells_81 (by decide) (fun c_81 => by first | (rw [c_24] at c_81; exact absurd c_81 (by decide)) | (rw [c_37] at c_81; exact absurd c_81 (by decide))) (fun c_81 => ?_)
          refine ol_aload_n C dX11_tells_84 rfl rfl (by first | exact ol_isq_r _ | exact ol_isq_q _ | exact ol_isq_n) ?_
          refine ol_gI (k := 9) C (by assumption) rfl rfl wd_589 (.inl rfl) dX11_tells_85 ?_
          rw [ol_u2_s]
          refine ol_goto (tgt := 109) C dX11_tells_88 (by decide) ?_
          exact ol_iret C hret hlk rfl (by decide) (by decide) dX11_tells_109 ⟨by unfold sp_tl; rw [ol_if_t hK, nI_clamp hj31, ol_if_t hW, ol_if_t c_24, ol_if_t ((sp_k0 _ _ _).mp c_69)], rfl, rfl, q1⟩
        · refine ol_ldc (v := (-1000010)) C wd_734 dX11_tells_72 ?_
          refine ol_iload_n C dX11_tells_74 rfl rfl ?_
          refine ol_isub C dX11_tells_75 ?_
          refine ol_goto (tgt := 109) C dX11_tells_76 (by decide) ?_
          exact ol_iret C hret hlk rfl (by decide) (by decide) dX11_tells_109 ⟨by unfold sp_tl; rw [ol_if_t hK, nI_clamp hj31, ol_if_t hW, ol_if_t c_24, ol_if_f (fun z => c_69 ((sp_k0 _ _ _).mpr z))], rfl, rfl, q1⟩
    · have hW : ¬ ol_k 3 w := fun q => ol_p_0.mp c_17 (ol_k_2.mpr q)
      refine ol_ldc (v := (-1000002)) C wd_675 dX11_tells_20 ?_
      exact ol_iret C hret hlk rfl (by decide) (by decide) dX11_tells_22 ⟨by unfold sp_tl; rw [ol_if_t hK, ol_if_f hW], rfl, rfl, ol_sq_rf ad I⟩
  · have hK := ol_p_0.mp c_5
    refine ol_ldc (v := (-1000001)) C wd_686 dX11_tells_8 ?_
    exact ol_iret C hret hlk rfl (by decide) (by decide) dX11_tells_10 ⟨by unfold sp_tl; rw [ol_if_f hK], rfl, rfl, ol_sq_rf ad I⟩

set_option maxRecDepth 100000 in
set_option maxHeartbeats 4000000 in
theorem mm_is (l : Launch) (D : va_G) (cA : Nat → ClassId) {ro : Nat → Nat} {I : Nat → Nat → Int32} {F : Nat → Nat → Option Nat} {ad : Nat → Nat} (hL : ol_L ro F ad) {n : Nat} {So : Nat → Nat} {T : Nat → Nat → Int32} {P : Nat → Nat → Option Nat} (hT : ol_MT I ad n So T P) (hV : ol_V n So T P) (t f : Int32) : ol_M l D cA yX11_is cX11_is 5 (some FieldType.int) (ol_r 2 0 0) [.ref (ad 10), .int t, .int f] ro I F (ol_ei (sp_is n So t f) ro I F) := by
  refine ol_M.of (by decide +kernel) (Nat.le_of_ble_eq_true rfl) (by simp [Value.category, ol_rfc]) ?_
  intro p e s m args below meth c C hret hlk hin
  have hm : ol_is ro (ad 10) (.inl 9) := hL.is 10 (by decide) (by decide) rfl
  have f_sorts : F (ad 10) 1 = some (ad 22) := hL.mf 1 22 (by decide)
  have i_sorts : ol_is ro (ad 22) (.inr (0, 40)) := hL.is 22 (by decide) (by decide) rfl
  have h40 := hV.1
  have hn := hT.1
  refine ol_aload_n C dX11_is_0 rfl rfl (by first | exact ol_isq_r _ | exact ol_isq_q _ | exact ol_isq_n) ?_
  refine ol_iload_n C dX11_is_1 rfl rfl ?_
  refine ol_callV C (mm_isThing l D cA hL hn h40 t) hm.1 hm.2 rfl wd_685 wd_4 wd_682 wd_684 wq_12 mh_X11_isThing (by decide) rfl (by first | exact Nat.le_of_ble_eq_true rfl | simp [ol_rfc, Value.category]) dX11_is_2 (ol_xi ?_)
  refine ol_if_ne (tgt := 11) C dX11_is_5 (by decide) (fun c_5 => ?_) (fun c_5 => ?_)
  · have hK := ol_p_n.mp c_5
    obtain ⟨j, hj, rfl, hj31⟩ := ol_k_ix hK h40
    have hj40 : j < 40 := by omega
    obtain ⟨e22, -⟩ := hT.2 j hj
    have s6 := (hV.2 j hj).1
    refine ol_aload_n C dX11_is_11 rfl rfl (by first | exact ol_isq_r _ | exact ol_isq_q _ | exact ol_isq_n) ?_
    refine ol_gR (k := 1) C (by assumption) rfl rfl wd_581 (.inl rfl) dX11_is_12 ?_
    refine ol_rf (by assumption) ?_
    refine ol_iload_n C dX11_is_15 rfl rfl ?_
    refine ol_lI j C (by assumption) rfl hj40 (by decide) dX11_is_16 ?_
    refine ol_ti e22 ?_
    refine ol_istore_n C dX11_is_17 rfl (by decide) ?_
    refine ol_iload_n C dX11_is_18 rfl rfl ?_
    refine ol_if_ne (tgt := 35) C dX11_is_19 (by decide) (fun c_19 => ?_) (fun c_19 => ?_)
    · refine ol_iload_n C dX11_is_35 rfl rfl ?_
      refine ol_iconst (v := 1) C dX11_is_36 (by decide) ?_
      refine ol_icmp_ne (tgt := 63) C dX11_is_37 (by decide) (fun c_37 => ?_) (fun c_37 => ?_)
      · refine ol_iload_n C dX11_is_63 rfl rfl ?_
        refine ol_iconst (v := 2) C dX11_is_64 (by decide) ?_
        refine ol_icmp_ne (tgt := 72) C dX11_is_65 (by decide) (fun c_65 => ?_) (fun c_65 => ?_)
        · refine ol_iconst (v := 0) C dX11_is_72 (by decide) ?_
          refine ol_istore C dX11_is_73 (by decide) ?_
          refine ol_iload_n C dX11_is_75 rfl rfl ?_
          refine ol_iconst (v := 0) C dX11_is_76 (by decide) ?_
          refine ol_iconst (v := 2) C dX11_is_77 (by decide) ?_
          refine ol_callS C (mm_in l D cA f 0 2) wd_674 wd_4 wd_672 wd_673 mh_X11_in (by decide) rfl (by first | exact Nat.le_of_ble_eq_true rfl | simp [ol_rfc, Value.category]) dX11_is_78 (ol_xi ?_)
          refine ol_if_ne (tgt := 89) C dX11_is_81 (by decide) (fun c_81 => ?_) (fun c_81 => ?_)
          · have f2 : f = 2 := by rcases ol_k3_012 (ol_k_2.mp (ol_p_n.mp c_81)) with h | h | h; exact absurd h c_19; exact absurd h c_37; exact h
            refine ol_iload C dX11_is_89 rfl ?_
            refine ol_if_eq (tgt := 98) C dX11_is_91 (by decide) (fun c_91 => ?_) (fun c_91 => absurd (show (0 : Int32) = 0 from rfl) c_91)
            refine ol_iconst (v := 0) C dX11_is_98 (by decide) ?_
            exact ol_iret C hret hlk rfl (by decide) (by decide) dX11_is_99 ⟨by unfold sp_is; rw [ol_if_t hK, nI_clamp hj31, ol_if_f c_19, ol_if_f c_37, ol_if_t f2]; exact ol_pf (fun z => c_65 ((ol_nIk (k := 2) s6 (by decide)).mpr z)), rfl, rfl, rfl⟩
          · have f2 : ¬ f = 2 := fun h => ol_p_0.mp c_81 (ol_k_2.mpr (by rw [h]; unfold ol_k; decide))
            refine ol_ldc (v := (-1000002)) C wd_675 dX11_is_84 ?_
            refine ol_goto (tgt := 99) C dX11_is_86 (by decide) ?_
            exact ol_iret C hret hlk rfl (by decide) (by decide) dX11_is_99 ⟨by unfold sp_is; rw [ol_if_t hK, nI_clamp hj31, ol_if_f c_19, ol_if_f c_37, ol_if_f f2], rfl, rfl, rfl⟩
        · refine ol_iconst (v := 1) C dX11_is_68 (by decide) ?_
          refine ol_goto (tgt := 73) C dX11_is_69 (by decide) ?_
          refine ol_istore C dX11_is_73 (by decide) ?_
          refine ol_iload_n C dX11_is_75 rfl rfl ?_
          refine ol_iconst (v := 0) C dX11_is_76 (by decide) ?_
          refine ol_iconst (v := 2) C dX11_is_77 (by decide) ?_
          refine ol_callS C (mm_in l D cA f 0 2) wd_674 wd_4 wd_672 wd_673 mh_X11_in (by decide) rfl (by first | exact Nat.le_of_ble_eq_true rfl | simp [ol_rfc, Value.category]) dX11_is_78 (ol_xi ?_)
          refine ol_if_ne (tgt := 89) C dX11_is_81 (by decide) (fun c_81 => ?_) (fun c_81 => ?_)
          · have f2 : f = 2 := by rcases ol_k3_012 (ol_k_2.mp (ol_p_n.mp c_81)) with h | h | h; exact absurd h c_19; exact absurd h c_37; exact h
            refine ol_iload C dX11_is_89 rfl ?_
            refine ol_if_eq (tgt := 98) C dX11_is_91 (by decide) (fun c_91 => absurd c_91 (by decide)) (fun c_91 => ?_)
            refine ol_iconst (v := 1) C dX11_is_94 (by decide) ?_
            refine ol_goto (tgt := 99) C dX11_is_95 (by decide) ?_
            exact ol_iret C hret hlk rfl (by decide) (by decide) dX11_is_99 ⟨by unfold sp_is; rw [ol_if_t hK, nI_clamp hj31, ol_if_f c_19, ol_if_f c_37, ol_if_t f2]; exact ol_pt ((ol_nIk (k := 2) s6 (by decide)).mp c_65), rfl, rfl, rfl⟩
          · have f2 : ¬ f = 2 := fun h => ol_p_0.mp c_81 (ol_k_2.mpr (by rw [h]; unfold ol_k; decide))
            refine ol_ldc (v := (-1000002)) C wd_675 dX11_is_84 ?_
            refine ol_goto (tgt := 99) C dX11_is_86 (by decide) ?_
            exact ol_iret C hret hlk rfl (by decide) (by decide) dX11_is_99 ⟨by unfold sp_is; rw [ol_if_t hK, nI_clamp hj31, ol_if_f c_19, ol_if_f c_37, ol_if_f f2], rfl, rfl, rfl⟩
      · refine ol_iload_n C dX11_is_40 rfl rfl ?_
        refine ol_iconst (v := 1) C dX11_is_41 (by decide) ?_
        refine ol_icmp_eq (tgt := 55) C dX11_is_42 (by decide) (fun c_42 => ?_) (fun c_42 => ?_)
        · refine ol_iconst (v := 1) C dX11_is_55 (by decide) ?_
          refine ol_goto (tgt := 73) C dX11_is_56 (by decide) ?_
          refine ol_istore C dX11_is_73 (by decide) ?_
          refine ol_iload_n C dX11_is_75 rfl rfl ?_
          refine ol_iconst (v := 0) C dX11_is_76 (by decide) ?_
          refine ol_iconst (v := 2) C dX11_is_77 (by decide) ?_
          refine ol_callS C (mm_in l D cA f 0 2) wd_674 wd_4 wd_672 wd_673 mh_X11_in (by decide) rfl (by first | exact Nat.le_of_ble_eq_true rfl | simp [ol_rfc, Value.category]) dX11_is_78 (ol_xi ?_)
          refine ol_if_ne (tgt := 89) C dX11_is_81 (by decide) (fun c_81 => ?_) (fun c_81 => by rw [c_37] at c_81; exact absurd (ol_k_2.mpr (by unfold ol_k; decide)) (ol_p_0.mp c_81))
          refine ol_iload C dX11_is_89 rfl ?_
          refine ol_if_eq (tgt := 98) C dX11_is_91 (by decide) (fun c_91 => absurd c_91 (by decide)) (fun c_91 => ?_)
          refine ol_iconst (v := 1) C dX11_is_94 (by decide) ?_
          refine ol_goto (tgt := 99) C dX11_is_95 (by decide) ?_
          exact ol_iret C hret hlk rfl (by decide) (by decide) dX11_is_99 ⟨by unfold sp_is; rw [ol_if_t hK, nI_clamp hj31, ol_if_f c_19, ol_if_t c_37]; exact ol_pt (Or.inl ((ol_nIk (k := 1) s6 (by decide)).mp c_42)), rfl, rfl, rfl⟩
        · refine ol_iload_n C dX11_is_45 rfl rfl ?_
          refine ol_iconst (v := 4) C dX11_is_46 (by decide) ?_
          refine ol_icmp_eq (tgt := 55) C dX11_is_47 (by decide) (fun c_47 => ?_) (fun c_47 => ?_)
          · refine ol_iconst (v := 1) C dX11_is_55 (by decide) ?_
            refine ol_goto (tgt := 73) C dX11_is_56 (by decide) ?_
            refine ol_istore C dX11_is_73 (by decide) ?_
            refine ol_iload_n C dX11_is_75 rfl rfl ?_
            refine ol_iconst (v := 0) C dX11_is_76 (by decide) ?_
            refine ol_iconst (v := 2) C dX11_is_77 (by decide) ?_
            refine ol_callS C (mm_in l D cA f 0 2) wd_674 wd_4 wd_672 wd_673 mh_X11_in (by decide) rfl (by first | exact Nat.le_of_ble_eq_true rfl | simp [ol_rfc, Value.category]) dX11_is_78 (ol_xi ?_)
            refine ol_if_ne (tgt := 89) C dX11_is_81 (by decide) (fun c_81 => ?_) (fun c_81 => by rw [c_37] at c_81; exact absurd (ol_k_2.mpr (by unfold ol_k; decide)) (ol_p_0.mp c_81))
            refine ol_iload C dX11_is_89 rfl ?_
            refine ol_if_eq (tgt := 98) C dX11_is_91 (by decide) (fun c_91 => absurd c_91 (by decide)) (fun c_91 => ?_)
            refine ol_iconst (v := 1) C dX11_is_94 (by decide) ?_
            refine ol_goto (tgt := 99) C dX11_is_95 (by decide) ?_
            exact ol_iret C hret hlk rfl (by decide) (by decide) dX11_is_99 ⟨by unfold sp_is; rw [ol_if_t hK, nI_clamp hj31, ol_if_f c_19, ol_if_t c_37]; exact ol_pt (Or.inr (Or.inl ((ol_nIk (k := 4) s6 (by decide)).mp c_47))), rfl, rfl, rfl⟩
          · refine ol_iload_n C dX11_is_50 rfl rfl ?_
            refine ol_iconst (v := 5) C dX11_is_51 (by decide) ?_
            refine ol_icmp_ne (tgt := 59) C dX11_is_52 (by decide) (fun c_52 => ?_) (fun c_52 => ?_)
            · refine ol_iconst (v := 0) C dX11_is_59 (by decide) ?_
              refine ol_goto (tgt := 73) C dX11_is_60 (by decide) ?_
              refine ol_istore C dX11_is_73 (by decide) ?_
              refine ol_iload_n C dX11_is_75 rfl rfl ?_
              refine ol_iconst (v := 0) C dX11_is_76 (by decide) ?_
              refine ol_iconst (v := 2) C dX11_is_77 (by decide) ?_
              refine ol_callS C (mm_in l D cA f 0 2) wd_674 wd_4 wd_672 wd_673 mh_X11_in (by decide) rfl (by first | exact Nat.le_of_ble_eq_true rfl | simp [ol_rfc, Value.category]) dX11_is_78 (ol_xi ?_)
              refine ol_if_ne (tgt := 89) C dX11_is_81 (by decide) (fun c_81 => ?_) (fun c_81 => by rw [c_37] at c_81; exact absurd (ol_k_2.mpr (by unfold ol_k; decide)) (ol_p_0.mp c_81))
              refine ol_iload C dX11_is_89 rfl ?_
              refine ol_if_eq (tgt := 98) C dX11_is_91 (by decide) (fun c_91 => ?_) (fun c_91 => absurd (show (0 : Int32) = 0 from rfl) c_91)
              refine ol_iconst (v := 0) C dX11_is_98 (by decide) ?_
              exact ol_iret C hret hlk rfl (by decide) (by decide) dX11_is_99 ⟨by unfold sp_is; rw [ol_if_t hK, nI_clamp hj31, ol_if_f c_19, ol_if_t c_37]; exact ol_pf (fun q => q.elim (fun z => c_42 ((ol_nIk (k := 1) s6 (by decide)).mpr z)) (fun q => q.elim (fun z => c_47 ((ol_nIk (k := 4) s6 (by decide)).mpr z)) (fun z => c_52 ((ol_nIk (k := 5) s6 (by decide)).mpr z)))), rfl, rfl, rfl⟩
            · refine ol_iconst (v := 1) C dX11_is_55 (by decide) ?_
              refine ol_goto (tgt := 73) C dX11_is_56 (by decide) ?_
              refine ol_istore C dX11_is_73 (by decide) ?_
              refine ol_iload_n C dX11_is_75 rfl rfl ?_
              refine ol_iconst (v := 0) C dX11_is_76 (by decide) ?_
              refine ol_iconst (v := 2) C dX11_is_77 (by decide) ?_
              refine ol_callS C (mm_in l D cA f 0 2) wd_674 wd_4 wd_672 wd_673 mh_X11_in (by decide) rfl (by first | exact Nat.le_of_ble_eq_true rfl | simp [ol_rfc, Value.category]) dX11_is_78 (ol_xi ?_)
              refine ol_if_ne (tgt := 89) C dX11_is_81 (by decide) (fun c_81 => ?_) (fun c_81 => by rw [c_37] at c_81; exact absurd (ol_k_2.mpr (by unfold ol_k; decide)) (ol_p_0.mp c_81))
              refine ol_iload C dX11_is_89 rfl ?_
              refine ol_if_eq (tgt := 98) C dX11_is_91 (by decide) (fun c_91 => absurd c_91 (by decide)) (fun c_91 => ?_)
              refine ol_iconst (v := 1) C dX11_is_94 (by decide) ?_
              refine ol_goto (tgt := 99) C dX11_is_95 (by decide) ?_
              exact ol_iret C hret hlk rfl (by decide) (by decide) dX11_is_99 ⟨by unfold sp_is; rw [ol_if_t hK, nI_clamp hj31, ol_if_f c_19, ol_if_t c_37]; exact ol_pt (Or.inr (Or.inr ((ol_nIk (k := 5) s6 (by decide)).mp c_52))), rfl, rfl, rfl⟩
    · refine ol_iload_n C dX11_is_22 rfl rfl ?_
      refine ol_iconst (v := 2) C dX11_is_23 (by decide) ?_
      refine ol_icmp_eq (tgt := 31) C dX11_is_24 (by decide) (fun c_24 => ?_) (fun c_24 => ?_)
      · refine ol_iconst (v := 0) C dX11_is_31 (by decide) ?_
        refine ol_goto (tgt := 73) C dX11_is_32 (by decide) ?_
        refine ol_istore C dX11_is_73 (by decide) ?_
        refine ol_iload_n C dX11_is_75 rfl rfl ?_
        refine ol_iconst (v := 0) C dX11_is_76 (by decide) ?_
        refine ol_iconst (v := 2) C dX11_is_77 (by decide) ?_
        refine ol_callS C (mm_in l D cA f 0 2) wd_674 wd_4 wd_672 wd_673 mh_X11_in (by decide) rfl (by first | exact Nat.le_of_ble_eq_true rfl | simp [ol_rfc, Value.category]) dX11_is_78 (ol_xi ?_)
        refine ol_if_ne (tgt := 89) C dX11_is_81 (by decide) (fun c_81 => ?_) (fun c_81 => by rw [c_19] at c_81; exact absurd (ol_k_2.mpr (by unfold ol_k; decide)) (ol_p_0.mp c_81))
        refine ol_iload C dX11_is_89 rfl ?_
        refine ol_if_eq (tgt := 98) C dX11_is_91 (by decide) (fun c_91 => ?_) (fun c_91 => absurd (show (0 : Int32) = 0 from rfl) c_91)
        refine ol_iconst (v := 0) C dX11_is_98 (by decide) ?_
        exact ol_iret C hret hlk rfl (by decide) (by decide) dX11_is_99 ⟨by unfold sp_is; rw [ol_if_t hK, nI_clamp hj31, ol_if_t c_19]; exact ol_pf (fun q => q ((ol_nIk (k := 2) s6 (by decide)).mp c_24)), rfl, rfl, rfl⟩
      · refine ol_iconst (v := 1) C dX11_is_27 (by decide) ?_
        refine ol_goto (tgt := 73) C dX11_is_28 (by decide) ?_
        refine ol_istore C dX11_is_73 (by decide) ?_
        refine ol_iload_n C dX11_is_75 rfl rfl ?_
        refine ol_iconst (v := 0) C dX11_is_76 (by decide) ?_
        refine ol_iconst (v := 2) C dX11_is_77 (by decide) ?_
        refine ol_callS C (mm_in l D cA f 0 2) wd_674 wd_4 wd_672 wd_673 mh_X11_in (by decide) rfl (by first | exact Nat.le_of_ble_eq_true rfl | simp [ol_rfc, Value.category]) dX11_is_78 (ol_xi ?_)
        refine ol_if_ne (tgt := 89) C dX11_is_81 (by decide) (fun c_81 => ?_) (fun c_81 => by rw [c_19] at c_81; exact absurd (ol_k_2.mpr (by unfold ol_k; decide)) (ol_p_0.mp c_81))
        refine ol_iload C dX11_is_89 rfl ?_
        refine ol_if_eq (tgt := 98) C dX11_is_91 (by decide) (fun c_91 => absurd c_91 (by decide)) (fun c_91 => ?_)
        refine ol_iconst (v := 1) C dX11_is_94 (by decide) ?_
        refine ol_goto (tgt := 99) C dX11_is_95 (by decide) ?_
        exact ol_iret C hret hlk rfl (by decide) (by decide) dX11_is_99 ⟨by unfold sp_is; rw [ol_if_t hK, nI_clamp hj31, ol_if_t c_19]; exact ol_pt (fun q => c_24 ((ol_nIk (k := 2) s6 (by decide)).mpr q)), rfl, rfl, rfl⟩
  · have hK := ol_p_0.mp c_5
    refine ol_ldc (v := (-1000001)) C wd_686 dX11_is_8 ?_
    exact ol_iret C hret hlk rfl (by decide) (by decide) dX11_is_10 ⟨by unfold sp_is; rw [ol_if_f hK], rfl, rfl, rfl⟩
