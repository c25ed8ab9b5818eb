set_option maxRecDepth 100000 in
set_option maxHeartbeats 4000000 in
theorem mm_ask (l : Launch) (D : va_G) (cA : Nat → ClassId) {ro : Nat → Nat} {I : Nat → Nat → Int32} {F : Nat → Nat → Option Nat} {ad : Nat → Nat} (hL : ol_L ro F ad) {g n : Nat} {So : Nat → Nat} {T : Nat → Nat → Int32} {P : Nat → Nat → Option Nat} (hV : ol_V n So T P) (hg : g < 2) {I0 : Nat → Nat → Int32} {b : ol_B} {k : Nat} (hI : ol_LI ad g n So T P I0 I b k k) (hB : ol_BW n So b (6 * k)) (hk : k < b.2.1 0 0) (hfa : b.2.1 2 k = b.2.1 0 1) (bk : Int32) (hky : ¬ bk = 0 → ∀ j, j < k → I (ad 41) j = T 1 (b.2.1 1 j)) : ol_M l D cA yX11_ask cX11_ask 7 (some FieldType.int) (ol_r 3 0 0) [.ref (ad 10), .int (nI g), .int (nI k), .int bk] ro I F (fun v ro' I' F' => ro' = ro ∧ F' = F ∧ ∃ (w : Int32) (K : Nat → Int32), v = some (.int w) ∧ ol_ao ad g n So T P I0 (sp_nd So T P (¬ bk = 0) k b) k K w I' ∧ (¬ bk = 0 → ∀ j, j < k + 1 → K j = T 1 (b.2.1 1 j))) := by
  refine ol_M.of (by decide +kernel) (Nat.le_of_ble_eq_true rfl) (by simp [Value.category, ol_rfc]) ?_
  intro p e s m args below meth c C hret hlk hin
  have hm : ol_is ro (ad 10) (.inl 9) := hL.is 10 (by decide) (by decide) rfl
  have f_askedOf : F (ad 10) 7 = some (ad 28) := hL.mf 7 28 (by decide)
  have i_askedOf : ol_is ro (ad 28) (.inr (0, 40)) := hL.is 28 (by decide) (by decide) rfl
  have f_thingOf : F (ad 10) 14 = some (ad 32) := hL.mf 14 32 (by decide)
  have i_thingOf : ol_is ro (ad 32) (.inr (0, 80)) := hL.is 32 (by decide) (by decide) rfl
  have f_columns : F (ad 10) 16 = some (ad 34) := hL.mf 16 34 (by decide)
  have i_columns : ol_is ro (ad 34) (.inr (0, 80)) := hL.is 34 (by decide) (by decide) rfl
  have f_firstArc : F (ad 10) 17 = some (ad 35) := hL.mf 17 35 (by decide)
  have i_firstArc : ol_is ro (ad 35) (.inr (0, 82)) := hL.is 35 (by decide) (by decide) rfl
  have f_arcsIn : F (ad 10) 18 = some (ad 36) := hL.mf 18 36 (by decide)
  have i_arcsIn : ol_is ro (ad 36) (.inr (0, 2)) := hL.is 36 (by decide) (by decide) rfl
  have f_keyOf : F (ad 10) 27 = some (ad 41) := hL.mf 27 41 (by decide)
  have i_keyOf : ol_is ro (ad 41) (.inr (0, 40)) := hL.is 41 (by decide) (by decide) rfl
  have h40 := hV.1
  have hle := hB.le
  have hk40 : k < 40 := by omega
  have ht : b.2.1 1 k < n := (hB.2.1 k hk).1
  have n41_28 : ad 41 ≠ ad 28 := hL.ne (by decide) (by decide) (by decide)
  have n41_10 : ad 41 ≠ ad 10 := hL.ne (by decide) (by decide) (by decide)
  have n10_41 : ad 10 ≠ ad 41 := hL.ne (by decide) (by decide) (by decide)
  have n32_41 : ad 32 ≠ ad 41 := hL.ne (by decide) (by decide) (by decide)
  have n32_10 : ad 32 ≠ ad 10 := hL.ne (by decide) (by decide) (by decide)
  have n32_28 : ad 32 ≠ ad 28 := hL.ne (by decide) (by decide) (by decide)
  refine ol_aload_n C dX11_ask_0 rfl rfl (by first | exact ol_isq_r _ | exact ol_isq_q _ | exact ol_isq_n) ?_
  refine ol_gR (k := 14) C (by assumption) rfl rfl wd_594 (.inl rfl) dX11_ask_1 ?_
  refine ol_rf (by assumption) ?_
  refine ol_bipush (v := 40) C dX11_ask_4 (by decide) ?_
  refine ol_iload_n C dX11_ask_6 rfl rfl ?_
  refine ol_imul C dX11_ask_7 ?_
  refine ol_iload_n C dX11_ask_8 rfl rfl ?_
  refine ol_iadd C dX11_ask_9 ?_
  refine ol_lI (40 * g + k) C (by assumption) (ol_ma rfl) (by omega) (by decide) dX11_ask_10 ?_
  refine ol_ti (hI.2.1.2.2.2.1 k hk) ?_
  refine ol_istore C dX11_ask_11 (by decide) ?_
  refine ol_iload_n C dX11_ask_13 rfl rfl ?_
  refine ol_if_eq (tgt := 112) C dX11_ask_14 (by decide) (fun c_14 => ?_) (fun c_14 => ?_)
  · refine ol_lv (lv' := [some (.ref (ad 10)), some (.int (nI g)), some (.int (nI k)), some (.int bk), some (.int (nI (b.2.1 1 k))), none, none]) (by intro i v h; rcases i with _|_|_|_|_|_|_|i <;> first | exact h | (simp at h)) ?_
    have eR : sp_nd So T P (¬ bk = 0) k b = sp_n2 So T P k (b.2.1 1 k) b := by unfold sp_nd; rw [ol_if_f (fun q => q c_14)]
    exact tl_ask C hret hlk hL hV hg hI hB hk40 ht hfa (fun v I' h => ⟨rfl, rfl, v, _, rfl, by rw [eR]; exact h, fun q => absurd c_14 q⟩)
  · refine ol_aload_n C dX11_ask_17 rfl rfl (by first | exact ol_isq_r _ | exact ol_isq_q _ | exact ol_isq_n) ?_
    refine ol_gR (k := 7) C (by assumption) rfl rfl wd_587 (.inl rfl) dX11_ask_18 ?_
    refine ol_rf (by assumption) ?_
    refine ol_iload C dX11_ask_21 rfl ?_
    refine ol_dup2 C dX11_ask_23 (by first | rfl | exact ol_rfc _) (by first | rfl | exact ol_rfc _) ?_
    refine ol_lI (b.2.1 1 k) C (by assumption) rfl (by omega) (by decide) dX11_ask_24 ?_
    refine ol_ti (hI.asked ht) ?_
    refine ol_iconst (v := 1) C dX11_ask_25 (by decide) ?_
    refine ol_iadd C dX11_ask_26 ?_
    refine ol_sI (b.2.1 1 k) C (by assumption) rfl (by omega) (by decide) dX11_ask_27 ?_
    have hI1 := hI.ask hL (b.2.1 1 k)
    refine ol_aload_n C dX11_ask_28 rfl rfl (by first | exact ol_isq_r _ | exact ol_isq_q _ | exact ol_isq_n) ?_
    refine ol_iload C dX11_ask_29 rfl ?_
    refine ol_callV C (mm_tKey l D cA hL hI1.1 hV ht) hm.1 hm.2 rfl wd_729 wd_4 wd_726 wd_728 wq_16 mh_X11_tellKey (by decide) rfl (by first | exact Nat.le_of_ble_eq_true rfl | simp [ol_rfc, Value.category]) dX11_ask_31 (ol_xi ?_)
    have hI2 := hI1.sq hL ((ol_sq_rf ad _).up (T 1 (b.2.1 1 k)) (Or.inl ⟨rfl, Or.inl rfl⟩))
    refine ol_istore C dX11_ask_34 (by decide) ?_
    refine ol_iload C dX11_ask_36 rfl ?_
    refine ol_if_le (tgt := 52) C dX11_ask_38 (by decide) (fun c_38 => ?_) (fun c_38 => ?_)
    · have hk0 : sp_kc So T (b.2.1 1 k) = 0 := (sp_k0 So T _).mp c_38
      refine ol_aload_n C dX11_ask_52 rfl rfl (by first | exact ol_isq_r _ | exact ol_isq_q _ | exact ol_isq_n) ?_
      refine ol_gR (k := 27) C (by assumption) rfl rfl wd_607 (.inl rfl) dX11_ask_53 ?_
      refine ol_rf (by assumption) ?_
      refine ol_iload_n C dX11_ask_56 rfl rfl ?_
      refine ol_aload_n C dX11_ask_57 rfl rfl (by first | exact ol_isq_r _ | exact ol_isq_q _ | exact ol_isq_n) ?_
      refine ol_gI (k := 9) C (by assumption) rfl rfl wd_589 (.inl rfl) dX11_ask_58 ?_
      rw [ol_u2_s]
      refine ol_sI k C (by assumption) rfl (by omega) (by decide) dX11_ask_61 ?_
      refine ol_iconst (v := 0) C dX11_ask_62 (by decide) ?_
      refine ol_istore C dX11_ask_63 (by decide) ?_
      have hb : ¬ bk = 0 := c_14
      have hI3 := hI2.off41 hL k (T 1 (b.2.1 1 k))
      have k41 : ∀ j, j < k + 1 → ol_u2 (ol_u2 (ol_u2 I (ad 28) (b.2.1 1 k) (b.1 (b.2.1 1 k) + 1)) (ad 10) 9 (T 1 (b.2.1 1 k))) (ad 41) k (T 1 (b.2.1 1 k)) (ad 41) j = T 1 (b.2.1 1 j) := by
        intro j hj
        by_cases e : j = k
        · subst e
          exact ol_u2_s _ _ _ _
        · rw [ol_u2_k _ _ e, ol_u2_a _ _ n41_10, ol_u2_a _ _ n41_28]
          exact hky hb j (by omega)
      refine lp_keys C hL (T := T) (N1 := b.2.1 1) (t := b.2.1 1 k) (Rs := sp_dk T (b.2.1 1) (b.2.1 1 k) k 0) hg hk40 (fun j hj => k41 j (by omega)) (by rw [ol_u2_a _ _ n10_41, ol_u2_s]) (fun j hj => by rw [ol_u2_a _ _ n32_41, ol_u2_a _ _ n32_10, ol_u2_a _ _ n32_28]; exact hI.2.1.2.2.2.1 j (by omega)) (fun hR => ?_) (fun j hR hj => ?_) k 0 (by omega) rfl
      · have eR : sp_nd So T P (¬ bk = 0) k b = sp_n2 So T P k (b.2.1 1 k) (sp_ask b (b.2.1 1 k)) := by unfold sp_nd; rw [ol_if_t hb, ol_if_t hk0, hR]
        exact tl_ask C hret hlk hL hV hg hI3 (hB.ask _) hk40 ht hfa (fun v I' h => ⟨rfl, rfl, v, _, rfl, by rw [eR]; exact h, fun _ => k41⟩)
      · have eR : sp_nd So T P (¬ bk = 0) k b = (sp_ask b (b.2.1 1 k), some (b.2.1 1 k, some (b.2.1 1 j), 6)) := by unfold sp_nd; rw [ol_if_t hb, ol_if_t hk0, hR]
        refine ol_aload_n C dX11_ask_85 rfl rfl (by first | exact ol_isq_r _ | exact ol_isq_q _ | exact ol_isq_n) ?_
        refine ol_iload C dX11_ask_86 rfl ?_
        refine ol_aload_n C dX11_ask_88 rfl rfl (by first | exact ol_isq_r _ | exact ol_isq_q _ | exact ol_isq_n) ?_
        refine ol_gR (k := 14) C (by assumption) rfl rfl wd_594 (.inl rfl) dX11_ask_89 ?_
        refine ol_rf (by assumption) ?_
        refine ol_bipush (v := 40) C dX11_ask_92 (by decide) ?_
        refine ol_iload_n C dX11_ask_94 rfl rfl ?_
        refine ol_imul C dX11_ask_95 ?_
        refine ol_iload C dX11_ask_96 rfl ?_
        refine ol_iadd C dX11_ask_98 ?_
        refine ol_lI (40 * g + j) C (by assumption) (ol_ma rfl) (by omega) (by decide) dX11_ask_99 ?_
        rw [ol_u2_a _ _ n32_41, ol_u2_a _ _ n32_10, ol_u2_a _ _ n32_28]
        refine ol_ti (hI.2.1.2.2.2.1 j (by omega)) ?_
        refine ol_bipush (v := 6) C dX11_ask_100 (by decide) ?_
        refine ol_callV C (mm_refuse l D cA hL (nI (b.2.1 1 k)) (nI (b.2.1 1 j)) 6) hm.1 hm.2 rfl wd_733 wd_4 wd_730 wd_732 wq_17 mh_X11_refuse (by decide) rfl (by first | exact Nat.le_of_ble_eq_true rfl | simp [ol_rfc, Value.category]) dX11_ask_102 (ol_xi ?_)
        exact ol_iret C hret hlk rfl (by decide) (by decide) dX11_ask_105 ⟨rfl, rfl, _, _, rfl, Or.inr ⟨b.2.1 1 k, some (b.2.1 1 j), 6, _, _, _, by rw [eR], by simp, rfl, by rw [eR]; exact hI3, rfl⟩, fun _ => k41⟩
    · have hk0 : ¬ sp_kc So T (b.2.1 1 k) = 0 := fun q => c_38 ((sp_k0 So T _).mpr q)
      have eR : sp_nd So T P (¬ bk = 0) k b = (sp_ask b (b.2.1 1 k), some (b.2.1 1 k, none, sp_kc So T (b.2.1 1 k))) := by unfold sp_nd; rw [ol_if_t (show ¬ bk = 0 from c_14), ol_if_f hk0]
      refine ol_aload_n C dX11_ask_41 rfl rfl (by first | exact ol_isq_r _ | exact ol_isq_q _ | exact ol_isq_n) ?_
      refine ol_iload C dX11_ask_42 rfl ?_
      refine ol_ldc (v := (-1000009)) C wd_677 dX11_ask_44 ?_
      refine ol_iload C dX11_ask_46 rfl ?_
      refine ol_callV C (mm_refuse l D cA hL (nI (b.2.1 1 k)) (-1000009) (sp_kc So T (b.2.1 1 k))) hm.1 hm.2 rfl wd_733 wd_4 wd_730 wd_732 wq_17 mh_X11_refuse (by decide) rfl (by first | exact Nat.le_of_ble_eq_true rfl | simp [ol_rfc, Value.category]) dX11_ask_48 (ol_xi ?_)
      exact ol_iret C hret hlk rfl (by decide) (by decide) dX11_ask_51 ⟨rfl, rfl, _, fun j => T 1 (b.2.1 1 j), rfl, Or.inr ⟨b.2.1 1 k, none, sp_kc So T (b.2.1 1 k), _, _, _, by rw [eR], sp_kc_r hk0, rfl, by rw [eR]; exact hI2, rfl⟩, fun _ _ _ => rfl⟩
