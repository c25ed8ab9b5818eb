set_option maxRecDepth 100000 in
set_option maxHeartbeats 4000000 in
theorem mm_load (l : Launch) (D : va_G) (cA : Nat → ClassId) {ro : Nat → Nat} {I : Nat → Nat → Int32} {F : Nat → Nat → Option Nat} {ad : Nat → Nat} (hL : ol_L ro F ad) {n : Nat} {So : Nat → Nat} {T : Nat → Nat → Int32} {P : Nat → Nat → Option Nat} (hT : ol_MT I ad n So T P) (hV : ol_V n So T P) {w : Nat} (hw : I (ad 10) 12 = nI w) (hw2 : w < 2) (t bk : Int32) : ol_M l D cA yX11_load cX11_load 6 (some FieldType.int) (ol_r 5 0 0) [.ref (ad 10), .int t, .int bk] ro I F (fun v ro' I' F' => ro' = ro ∧ F' = F ∧ ((¬ ol_k n t ∧ v = some (.int (-1000001)) ∧ I' = I) ∨ (∃ j, t = nI j ∧ j < n ∧ So j = 2 ∧ v = some (.int (-1000003)) ∧ I' = I) ∨ ∃ j, t = nI j ∧ j < n ∧ ¬ So j = 2 ∧ (((sp_R So T P (¬ bk = 0) j).2 = none ∧ v = some (.int (nI ((sp_R So T P (¬ bk = 0) j).1.2.1 0 0))) ∧ ∃ I2, ol_LI ad (1 - w) n So T P (ol_u2 I (ad 10) 26 0) I2 (sp_R So T P (¬ bk = 0) j).1 ((sp_R So T P (¬ bk = 0) j).1.2.1 0 0) ((sp_R So T P (¬ bk = 0) j).1.2.1 0 0 + 1) ∧ I' = ol_u2 I2 (ad 10) 12 (nI (1 - w))) ∨ ∃ (u : Nat) (q : Option Nat) (z : Int32) (I2 : Nat → Nat → Int32) (kc kf : Nat), (sp_R So T P (¬ bk = 0) j).2 = some (u, q, z) ∧ (z = 1 ∨ z = 2 ∨ z = 3 ∨ z = 4 ∨ z = 6) ∧ v = some (.int (-1000010 - z)) ∧ ol_LI ad (1 - w) n So T P (ol_u2 I (ad 10) 26 0) I2 (sp_R So T P (¬ bk = 0) j).1 kc kf ∧ I' = ol_rfu I2 ad (nI u) (ol_e q) z))) := by
  refine ol_M.of (by decide +kernel) (Nat.le_of_ble_eq_true rfl) (by simp [Value.category, ol_rfc]) ?_
  intro p e s m args below meth c C hret hlk hin
  have hm : ol_is ro (ad 10) (.inl 9) := hL.is 10 (by decide) (by decide) rfl
  have f_sorts : F (ad 10) 1 = some (ad 22) := hL.mf 1 22 (by decide)
  have i_sorts : ol_is ro (ad 22) (.inr (0, 40)) := hL.is 22 (by decide) (by decide) rfl
  have f_nodes : F (ad 10) 13 = some (ad 31) := hL.mf 13 31 (by decide)
  have i_nodes : ol_is ro (ad 31) (.inr (0, 2)) := hL.is 31 (by decide) (by decide) rfl
  have f_nodeOf : F (ad 10) 15 = some (ad 33) := hL.mf 15 33 (by decide)
  have i_nodeOf : ol_is ro (ad 33) (.inr (0, 80)) := hL.is 33 (by decide) (by decide) rfl
  have f_firstArc : F (ad 10) 17 = some (ad 35) := hL.mf 17 35 (by decide)
  have i_firstArc : ol_is ro (ad 35) (.inr (0, 82)) := hL.is 35 (by decide) (by decide) rfl
  have f_arcsIn : F (ad 10) 18 = some (ad 36) := hL.mf 18 36 (by decide)
  have i_arcsIn : ol_is ro (ad 36) (.inr (0, 2)) := hL.is 36 (by decide) (by decide) rfl
  have f_holeMany : F (ad 10) 22 = some (ad 40) := hL.mf 22 40 (by decide)
  have i_holeMany : ol_is ro (ad 40) (.inr (0, 2)) := hL.is 40 (by decide) (by decide) rfl
  have h40 := hV.1
  have hn := hT.1
  have hg : 1 - w < 2 := by omega
  have n31_10 : ad 31 ≠ ad 10 := hL.ne (by decide) (by decide) (by decide)
  refine ol_aload_n C dX11_load_0 rfl rfl (by first | exact ol_isq_r _ | exact ol_isq_q _ | exact ol_isq_n) ?_
  refine ol_iload_n C dX11_load_1 rfl rfl ?_
  refine ol_callV C (mm_isThing l D cA hL hn h40 t) hm.1 hm.2 rfl wd_685 wd_4 wd_682 wd_684 wq_12 mh_X11_isThing (by decide) rfl (by first | exact Nat.le_of_ble_eq_true rfl | simp [ol_rfc, Value.category]) dX11_load_2 (ol_xi ?_)
  refine ol_if_ne (tgt := 11) C dX11_load_5 (by decide) (fun c_5 => ?_) (fun c_5 => ?_)
  · have hK := ol_p_n.mp c_5
    obtain ⟨j, hj, rfl, hj31⟩ := ol_k_ix hK h40
    have hj40 : j < 40 := by omega
    obtain ⟨e22, -⟩ := hT.2 j hj
    refine ol_aload_n C dX11_load_11 rfl rfl (by first | exact ol_isq_r _ | exact ol_isq_q _ | exact ol_isq_n) ?_
    refine ol_gR (k := 1) C (by assumption) rfl rfl wd_581 (.inl rfl) dX11_load_12 ?_
    refine ol_rf (by assumption) ?_
    refine ol_iload_n C dX11_load_15 rfl rfl ?_
    refine ol_lI j C (by assumption) rfl hj40 (by decide) dX11_load_16 ?_
    refine ol_ti e22 ?_
    refine ol_iconst (v := 2) C dX11_load_17 (by decide) ?_
    refine ol_icmp_ne (tgt := 24) C dX11_load_18 (by decide) (fun c_18 => ?_) (fun c_18 => ?_)
    · have s2 : ¬ So j = 2 := fun q => c_18 (by rw [q]; rfl)
      refine ol_iconst (v := 1) C dX11_load_24 (by decide) ?_
      refine ol_aload_n C dX11_load_25 rfl rfl (by first | exact ol_isq_r _ | exact ol_isq_q _ | exact ol_isq_n) ?_
      refine ol_gI (k := 12) C (by assumption) rfl rfl wd_592 (.inl rfl) dX11_load_26 ?_
      refine ol_isub C dX11_load_29 ?_
      refine ol_ti (y := nI (1 - w)) (by rw [hw]; exact pk_sub (a := 1) (by omega)) ?_
      refine ol_istore_n C dX11_load_30 rfl (by decide) ?_
      refine ol_aload_n C dX11_load_31 rfl rfl (by first | exact ol_isq_r _ | exact ol_isq_q _ | exact ol_isq_n) ?_
      refine ol_iconst (v := 0) C dX11_load_32 (by decide) ?_
      refine ol_pI (k := 26) C (by assumption) rfl rfl wd_606 (.inl rfl) rfl rfl dX11_load_33 ?_
      refine ol_aload_n C dX11_load_36 rfl rfl (by first | exact ol_isq_r _ | exact ol_isq_q _ | exact ol_isq_n) ?_
      refine ol_gR (k := 13) C (by assumption) rfl rfl wd_593 (.inl rfl) dX11_load_37 ?_
      refine ol_rf (by assumption) ?_
      refine ol_iload_n C dX11_load_40 rfl rfl ?_
      refine ol_iconst (v := 0) C dX11_load_41 (by decide) ?_
      refine ol_sI (1 - w) C (by assumption) rfl hg (by decide) dX11_load_42 ?_
      refine ol_aload_n C dX11_load_43 rfl rfl (by first | exact ol_isq_r _ | exact ol_isq_q _ | exact ol_isq_n) ?_
      refine ol_gR (k := 18) C (by assumption) rfl rfl wd_598 (.inl rfl) dX11_load_44 ?_
      refine ol_rf (by assumption) ?_
      refine ol_iload_n C dX11_load_47 rfl rfl ?_
      refine ol_iconst (v := 0) C dX11_load_48 (by decide) ?_
      refine ol_sI (1 - w) C (by assumption) rfl hg (by decide) dX11_load_49 ?_
      refine ol_aload_n C dX11_load_50 rfl rfl (by first | exact ol_isq_r _ | exact ol_isq_q _ | exact ol_isq_n) ?_
      refine ol_gR (k := 22) C (by assumption) rfl rfl wd_602 (.inl rfl) dX11_load_51 ?_
      refine ol_rf (by assumption) ?_
      refine ol_iload_n C dX11_load_54 rfl rfl ?_
      refine ol_iconst (v := 0) C dX11_load_55 (by decide) ?_
      refine ol_sI (1 - w) C (by assumption) rfl hg (by decide) dX11_load_56 ?_
      refine ol_iconst (v := 0) C dX11_load_57 (by decide) ?_
      refine ol_istore C dX11_load_58 (by decide) ?_
      refine lp_nof C hL hg (fun I3 h1 h2 h3 => ?_) 40 0 _ (by omega) (fun _ _ => rfl) (fun j hj => absurd hj (by omega)) (fun _ _ => rfl)
      have hI3 := ol_LI_init hL hT h1 h2 h3
      refine ol_aload_n C dX11_load_86 rfl rfl (by first | exact ol_isq_r _ | exact ol_isq_q _ | exact ol_isq_n) ?_
      refine ol_iload_n C dX11_load_87 rfl rfl ?_
      refine ol_iload_n C dX11_load_88 rfl rfl ?_
      refine ol_callV C (mm_fnd l D cA hL hg h40 hI3 (sp_b0_BW n So T) hj) hm.1 hm.2 rfl wd_721 wd_4 wd_718 wd_720 wq_14 mh_X11_found (by decide) rfl (by first | exact Nat.le_of_ble_eq_true rfl | simp [ol_rfc, Value.category]) dX11_load_89 (fun v_89 ro_89 I_89 F_89 hh_89 => ?_)
      obtain ⟨rfl, rfl, rfl, hI4, -, -, -⟩ := hh_89
      refine ol_st (st' := .int _ :: _) rfl ?_
      refine ol_istore C dX11_load_92 (by decide) ?_
      refine ol_lv (lv' := [some (.ref (ad 10)), some (.int (nI j)), some (.int bk), some (.int (nI (1 - w))), some (.int (nI 0)), none]) (by intro i v h; rcases i with _|_|_|_|_|_|i <;> first | exact h | (simp at h)) ?_
      have hBf := (sp_b0_BW n So T).find hj s2
      have ef : (sp_find (sp_b0 T) j).2.1 2 0 = (sp_find (sp_b0 T) j).2.1 0 1 := rfl
      refine lp_load C hL hV hg (Rs := sp_R So T P (¬ bk = 0) j) (by decide) (fun I5 b5 k hI5 hB5 hle5 hfa5 hkn eR => ?_) (fun I5 b5 u q z kc kf eR hz hI5 => ?_) 41 0 _ (sp_find (sp_b0 T) j) rfl (hI4) hBf.1 (Nat.zero_le _) ef (fun _ j hj => absurd hj (Nat.not_lt_zero j)) rfl
      · have hk40 : k ≤ n := by have := hB5.le; omega
        refine ol_aload_n C dX11_load_129 rfl rfl (by first | exact ol_isq_r _ | exact ol_isq_q _ | exact ol_isq_n) ?_
        refine ol_gR (k := 17) C (by assumption) rfl rfl wd_597 (.inl rfl) dX11_load_130 ?_
        refine ol_rf (by assumption) ?_
        refine ol_bipush (v := 41) C dX11_load_133 (by decide) ?_
        refine ol_iload_n C dX11_load_135 rfl rfl ?_
        refine ol_imul C dX11_load_136 ?_
        refine ol_aload_n C dX11_load_137 rfl rfl (by first | exact ol_isq_r _ | exact ol_isq_q _ | exact ol_isq_n) ?_
        refine ol_gR (k := 13) C (by assumption) rfl rfl wd_593 (.inl rfl) dX11_load_138 ?_
        refine ol_rf (by assumption) ?_
        refine ol_iload_n C dX11_load_141 rfl rfl ?_
        refine ol_lI (1 - w) C (by assumption) rfl hg (by decide) dX11_load_142 ?_
        refine ol_ti (show I5 (ad 31) (1 - w) = nI k from hkn ▸ hI5.2.1.1) ?_
        refine ol_iadd C dX11_load_143 ?_
        refine ol_aload_n C dX11_load_144 rfl rfl (by first | exact ol_isq_r _ | exact ol_isq_q _ | exact ol_isq_n) ?_
        refine ol_gR (k := 18) C (by assumption) rfl rfl wd_598 (.inl rfl) dX11_load_145 ?_
        refine ol_rf (by assumption) ?_
        refine ol_iload_n C dX11_load_148 rfl rfl ?_
        refine ol_lI (1 - w) C (by assumption) rfl hg (by decide) dX11_load_149 ?_
        refine ol_ti (show I5 (ad 36) (1 - w) = nI (b5.2.1 0 1) from hI5.2.1.2.1) ?_
        refine ol_sI (41 * (1 - w) + k) C (by assumption) (ol_ma rfl) (by omega) (by decide) dX11_load_150 ?_
        have hI6 := hI5.fa hL (by omega) hfa5
        refine ol_aload_n C dX11_load_151 rfl rfl (by first | exact ol_isq_r _ | exact ol_isq_q _ | exact ol_isq_n) ?_
        refine ol_iload_n C dX11_load_152 rfl rfl ?_
        refine ol_pI (k := 12) C (by assumption) rfl rfl wd_592 (.inl rfl) rfl rfl dX11_load_153 ?_
        refine ol_aload_n C dX11_load_156 rfl rfl (by first | exact ol_isq_r _ | exact ol_isq_q _ | exact ol_isq_n) ?_
        refine ol_gR (k := 13) C (by assumption) rfl rfl wd_593 (.inl rfl) dX11_load_157 ?_
        refine ol_rf (by assumption) ?_
        refine ol_iload_n C dX11_load_160 rfl rfl ?_
        refine ol_lI (1 - w) C (by assumption) rfl hg (by decide) dX11_load_161 ?_
        rw [ol_u2_a _ _ n31_10]
        refine ol_ti (show ol_u2 I5 (ad 35) (41 * (1 - w) + k) (nI (b5.2.1 0 1)) (ad 31) (1 - w) = nI (b5.2.1 0 0) from hI6.2.1.1) ?_
        exact ol_iret C hret hlk rfl (by decide) (by decide) dX11_load_162 ⟨rfl, rfl, Or.inr (Or.inr ⟨j, rfl, hj, s2, Or.inl ⟨by rw [eR], by rw [eR], _, by rw [eR, ← hkn]; exact hI6, rfl⟩⟩)⟩
      · refine ol_iload C dX11_load_120 rfl ?_
        exact ol_iret C hret hlk rfl (by decide) (by decide) dX11_load_122 ⟨rfl, rfl, Or.inr (Or.inr ⟨j, rfl, hj, s2, Or.inr ⟨u, q, z, I5, kc, kf, by rw [eR], hz, rfl, by rw [eR]; exact hI5, rfl⟩⟩)⟩
    · have s2 : So j = 2 := (ol_nIk (k := 2) (hV.2 j hj).1 (by decide)).mp c_18
      refine ol_ldc (v := (-1000003)) C wd_717 dX11_load_21 ?_
      exact ol_iret C hret hlk rfl (by decide) (by decide) dX11_load_23 ⟨rfl, rfl, Or.inr (Or.inl ⟨j, rfl, hj, s2, rfl, rfl⟩)⟩
  · have hK := ol_p_0.mp c_5
    refine ol_ldc (v := (-1000001)) C wd_686 dX11_load_8 ?_
    exact ol_iret C hret hlk rfl (by decide) (by decide) dX11_load_10 ⟨rfl, rfl, Or.inl ⟨hK, rfl, rfl⟩⟩
