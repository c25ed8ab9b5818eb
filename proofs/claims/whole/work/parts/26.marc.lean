set_option maxRecDepth 100000 in
set_option maxHeartbeats 4000000 in
theorem mm_arc (l : Launch) (D : va_G) (cA : Nat → ClassId) {ro : Nat → Nat} {I : Nat → Nat → Int32} {F : Nat → Nat → Option Nat} {ad : Nat → Nat} (hL : ol_L ro F ad) {w nn : Nat} (hw : I (ad 10) 12 = nI w) (hw2 : w < 2) (hnn : I (ad 31) w = nI nn) (h40 : nn ≤ 40) {fA : Nat → Nat} (hfa : ∀ j, j ≤ nn → I (ad 35) (41 * w + j) = nI (fA j)) (hmo : ∀ j, j < nn → fA j ≤ fA (j + 1)) (h240 : ∀ j, j ≤ nn → fA j ≤ 240) (t k v : Int32) : ol_M l D cA yX11_arc cX11_arc 5 (some FieldType.int) (ol_r 3 0 0) [.ref (ad 10), .int t, .int k, .int v] ro I F (ol_ei (ol_if (ol_k nn t ∧ ol_k (fA (t.toNatClampNeg + 1) - fA t.toNatClampNeg) k) (ol_if (v = 0) (I (ad 37) (240 * w + (fA t.toNatClampNeg + k.toNatClampNeg))) (ol_if (v = 1) (I (ad 38) (240 * w + (fA t.toNatClampNeg + k.toNatClampNeg))) (ol_if (v = 2) (ol_p (¬ I (ad 39) (240 * w + (fA t.toNatClampNeg + k.toNatClampNeg)) = 0)) (-1000002)))) (-1000001)) ro I F) := by
  refine ol_M.of (by decide +kernel) (Nat.le_of_ble_eq_true rfl) (by simp [Value.category, ol_rfc]) ?_
  intro p e s m args below meth c C hret hlk hin
  have hm : ol_is ro (ad 10) (.inl 9) := hL.is 10 (by decide) (by decide) rfl
  have f_firstArc : F (ad 10) 17 = some (ad 35) := hL.mf 17 35 (by decide)
  have i_firstArc : ol_is ro (ad 35) (.inr (0, 82)) := hL.is 35 (by decide) (by decide) rfl
  have f_arcTo : F (ad 10) 19 = some (ad 37) := hL.mf 19 37 (by decide)
  have i_arcTo : ol_is ro (ad 37) (.inr (0, 480)) := hL.is 37 (by decide) (by decide) rfl
  have f_arcWeight : F (ad 10) 20 = some (ad 38) := hL.mf 20 38 (by decide)
  have i_arcWeight : ol_is ro (ad 38) (.inr (0, 480)) := hL.is 38 (by decide) (by decide) rfl
  have f_arcBridge : F (ad 10) 21 = some (ad 39) := hL.mf 21 39 (by decide)
  have i_arcBridge : ol_is ro (ad 39) (.inr (1, 480)) := hL.is 39 (by decide) (by decide) rfl
  refine ol_aload_n C dX11_arc_0 rfl rfl (by first | exact ol_isq_r _ | exact ol_isq_q _ | exact ol_isq_n) ?_
  refine ol_iload_n C dX11_arc_1 rfl rfl ?_
  refine ol_callV C (mm_isNode l D cA hL hw hw2 hnn h40 t) hm.1 hm.2 rfl wd_766 wd_4 wd_763 wd_765 wq_22 mh_X11_isNode (by decide) rfl (by first | exact Nat.le_of_ble_eq_true rfl | simp [ol_rfc, Value.category]) dX11_arc_2 (ol_xi ?_)
  refine ol_if_eq (tgt := 23) C dX11_arc_5 (by decide) (fun c_5 => ?_) (fun c_5 => ?_)
  · have hC : ¬ (ol_k nn t ∧ ol_k (fA (t.toNatClampNeg + 1) - fA t.toNatClampNeg) k) := fun q => ol_p_0.mp c_5 q.1
    refine ol_ldc (v := (-1000001)) C wd_686 dX11_arc_23 ?_
    exact ol_iret C hret hlk rfl (by decide) (by decide) dX11_arc_25 ⟨by rw [ol_if_f hC], rfl, rfl, rfl⟩
  · have hK := ol_p_n.mp c_5
    obtain ⟨j, hj, rfl, hj31⟩ := ol_k_ix hK h40
    have hj40 : j < 40 := by omega
    have ej : (nI j).toNatClampNeg = j := nI_clamp hj31
    have m1 := hmo j hj
    have m2 := h240 (j + 1) (by omega)
    have ar : ol_if (ol_k nn (nI j)) (I (ad 35) (41 * w + (nI j).toNatClampNeg + 1) - I (ad 35) (41 * w + (nI j).toNatClampNeg)) (-1000001) = nI (fA (j + 1) - fA j) := by
      rw [ol_if_t hK, ej, Nat.add_assoc, hfa (j + 1) (by omega), hfa j (by omega)]
      exact pk_sub m1
    refine ol_iload_n C dX11_arc_8 rfl rfl ?_
    refine ol_iconst (v := 0) C dX11_arc_9 (by decide) ?_
    refine ol_aload_n C dX11_arc_10 rfl rfl (by first | exact ol_isq_r _ | exact ol_isq_q _ | exact ol_isq_n) ?_
    refine ol_iload_n C dX11_arc_11 rfl rfl ?_
    refine ol_callV C (mm_arcs l D cA hL hw hw2 hnn h40 (nI j)) hm.1 hm.2 rfl wd_774 wd_4 wd_779 wd_772 wd_773 mh_X11_arcs (by decide) rfl (by first | exact Nat.le_of_ble_eq_true rfl | simp [ol_rfc, Value.category]) dX11_arc_12 (ol_xi ?_)
    refine ol_ti ar ?_
    refine ol_iconst (v := 1) C dX11_arc_15 (by decide) ?_
    refine ol_isub C dX11_arc_16 ?_
    refine ol_callS C (mm_in l D cA k 0 (nI (fA (j + 1) - fA j) - 1)) wd_674 wd_4 wd_672 wd_673 mh_X11_in (by decide) rfl (by first | exact Nat.le_of_ble_eq_true rfl | simp [ol_rfc, Value.category]) dX11_arc_17 (ol_xi ?_)
    refine ol_if_ne (tgt := 26) C dX11_arc_20 (by decide) (fun c_20 => ?_) (fun c_20 => ?_)
    · have hk := (ol_k_m1 (by omega)).mp (ol_p_n.mp c_20)
      have hC : ol_k nn (nI j) ∧ ol_k (fA ((nI j).toNatClampNeg + 1) - fA (nI j).toNatClampNeg) k := ⟨hK, by rw [ej]; exact hk⟩
      obtain ⟨r, hr, e1, -, e2, -⟩ := pk_mu hk.1 hk.2 (by omega)
      have er : k.toNatClampNeg = r := e2
      refine ol_sipush (v := 240) C dX11_arc_26 (by decide) ?_
      refine ol_aload_n C dX11_arc_29 rfl rfl (by first | exact ol_isq_r _ | exact ol_isq_q _ | exact ol_isq_n) ?_
      refine ol_gI (k := 12) C (by assumption) rfl rfl wd_592 (.inl rfl) dX11_arc_30 ?_
      refine ol_imul C dX11_arc_33 ?_
      refine ol_aload_n C dX11_arc_34 rfl rfl (by first | exact ol_isq_r _ | exact ol_isq_q _ | exact ol_isq_n) ?_
      refine ol_gR (k := 17) C (by assumption) rfl rfl wd_597 (.inl rfl) dX11_arc_35 ?_
      refine ol_rf (by assumption) ?_
      refine ol_bipush (v := 41) C dX11_arc_38 (by decide) ?_
      refine ol_aload_n C dX11_arc_40 rfl rfl (by first | exact ol_isq_r _ | exact ol_isq_q _ | exact ol_isq_n) ?_
      refine ol_gI (k := 12) C (by assumption) rfl rfl wd_592 (.inl rfl) dX11_arc_41 ?_
      refine ol_imul C dX11_arc_44 ?_
      refine ol_iload_n C dX11_arc_45 rfl rfl ?_
      refine ol_iadd C dX11_arc_46 ?_
      refine ol_lI (41 * w + j) C (by assumption) (by rw [hw]; exact ol_ma rfl) (by omega) (by decide) dX11_arc_47 ?_
      refine ol_ti (hfa j (by omega)) ?_
      refine ol_iadd C dX11_arc_48 ?_
      refine ol_iload_n C dX11_arc_49 rfl rfl ?_
      refine ol_iadd C dX11_arc_50 ?_
      refine ol_ti (y := nI (240 * w + (fA j + r))) (by rw [hw, e1]; exact ol_maa rfl) ?_
      refine ol_istore C dX11_arc_51 (by decide) ?_
      refine ol_iload_n C dX11_arc_53 rfl rfl ?_
      refine ol_if_ne (tgt := 67) C dX11_arc_54 (by decide) (fun c_54 => ?_) (fun c_54 => ?_)
      · refine ol_iload_n C dX11_arc_67 rfl rfl ?_
        refine ol_iconst (v := 1) C dX11_arc_68 (by decide) ?_
        refine ol_icmp_ne (tgt := 82) C dX11_arc_69 (by decide) (fun c_69 => ?_) (fun c_69 => ?_)
        · refine ol_iload_n C dX11_arc_82 rfl rfl ?_
          refine ol_iconst (v := 2) C dX11_arc_83 (by decide) ?_
          refine ol_icmp_ne (tgt := 105) C dX11_arc_84 (by decide) (fun c_84 => ?_) (fun c_84 => ?_)
          · refine ol_ldc (v := (-1000002)) C wd_675 dX11_arc_105 ?_
            exact ol_iret C hret hlk rfl (by decide) (by decide) dX11_arc_107 ⟨by rw [ol_if_t hC, ej, er, ol_if_f c_54, ol_if_f c_69, ol_if_f c_84], rfl, rfl, rfl⟩
          · refine ol_aload_n C dX11_arc_87 rfl rfl (by first | exact ol_isq_r _ | exact ol_isq_q _ | exact ol_isq_n) ?_
            refine ol_gR (k := 21) C (by assumption) rfl rfl wd_601 (.inl rfl) dX11_arc_88 ?_
            refine ol_rf (by assumption) ?_
            refine ol_iload C dX11_arc_91 rfl ?_
            refine ol_lZ (240 * w + (fA j + r)) C (by assumption) rfl (by omega) (by decide) dX11_arc_93 ?_
            refine ol_if_eq (tgt := 101) C dX11_arc_94 (by decide) (fun c_94 => ?_) (fun c_94 => ?_)
            · refine ol_iconst (v := 0) C dX11_arc_101 (by decide) ?_
              refine ol_goto (tgt := 107) C dX11_arc_102 (by decide) ?_
              exact ol_iret C hret hlk rfl (by decide) (by decide) dX11_arc_107 ⟨by rw [ol_if_t hC, ej, er, ol_if_f c_54, ol_if_f c_69, ol_if_t c_84]; exact ol_pf (fun q => q c_94), rfl, rfl, rfl⟩
            · refine ol_iconst (v := 1) C dX11_arc_97 (by decide) ?_
              refine ol_goto (tgt := 107) C dX11_arc_98 (by decide) ?_
              exact ol_iret C hret hlk rfl (by decide) (by decide) dX11_arc_107 ⟨by rw [ol_if_t hC, ej, er, ol_if_f c_54, ol_if_f c_69, ol_if_t c_84]; exact ol_pt c_94, rfl, rfl, rfl⟩
        · refine ol_aload_n C dX11_arc_72 rfl rfl (by first | exact ol_isq_r _ | exact ol_isq_q _ | exact ol_isq_n) ?_
          refine ol_gR (k := 20) C (by assumption) rfl rfl wd_600 (.inl rfl) dX11_arc_73 ?_
          refine ol_rf (by assumption) ?_
          refine ol_iload C dX11_arc_76 rfl ?_
          refine ol_lI (240 * w + (fA j + r)) C (by assumption) rfl (by omega) (by decide) dX11_arc_78 ?_
          refine ol_goto (tgt := 107) C dX11_arc_79 (by decide) ?_
          exact ol_iret C hret hlk rfl (by decide) (by decide) dX11_arc_107 ⟨by rw [ol_if_t hC, ej, er, ol_if_f c_54, ol_if_t c_69], rfl, rfl, rfl⟩
      · refine ol_aload_n C dX11_arc_57 rfl rfl (by first | exact ol_isq_r _ | exact ol_isq_q _ | exact ol_isq_n) ?_
        refine ol_gR (k := 19) C (by assumption) rfl rfl wd_599 (.inl rfl) dX11_arc_58 ?_
        refine ol_rf (by assumption) ?_
        refine ol_iload C dX11_arc_61 rfl ?_
        refine ol_lI (240 * w + (fA j + r)) C (by assumption) rfl (by omega) (by decide) dX11_arc_63 ?_
        refine ol_goto (tgt := 107) C dX11_arc_64 (by decide) ?_
        exact ol_iret C hret hlk rfl (by decide) (by decide) dX11_arc_107 ⟨by rw [ol_if_t hC, ej, er, ol_if_t c_54], rfl, rfl, rfl⟩
    · have hC : ¬ (ol_k nn (nI j) ∧ ol_k (fA ((nI j).toNatClampNeg + 1) - fA (nI j).toNatClampNeg) k) := fun q => ol_p_0.mp c_20 ((ol_k_m1 (by omega)).mpr (by have := q.2; rw [ej] at this; exact this))
      refine ol_ldc (v := (-1000001)) C wd_686 dX11_arc_23 ?_
      exact ol_iret C hret hlk rfl (by decide) (by decide) dX11_arc_25 ⟨by rw [ol_if_f hC], rfl, rfl, rfl⟩

set_option maxRecDepth 100000 in
set_option maxHeartbeats 4000000 in
theorem lp_copy1 {p : Program} {l : Launch} {e : Env} {R : Room} {s : State} {m : MethodId} {args : Array Value} {below : List Frame} {meth : Method} {c : Code} {D : va_G} {cA : Nat → ClassId} {A : Nat → Prop} {Q : State → Prop} {ro : Nat → Nat} {F : Nat → Nat → Option Nat} {cells slots : Nat} (C : ol_Cx p s m args c cX11_copy 7 yX11_copy.cls D cA A) {ad : Nat → Nat} (hL : ol_L ro F ad) {I0 : Nat → Nat → Int32} {n : Nat} {So : Nat → Nat} {T : Nat → Nat → Int32} {P : Nat → Nat → Option Nat} (hT : ol_MT I0 ad n So T P) (hV : ol_V n So T P) {t u ka kb kn : Nat} (ht : t < n) (hu : u < n) (hka : ka + kn ≤ 6) (hkb : kb + kn ≤ 6) (hR1 : ol_rm R (ol_r 0 0 0) 2 cells slots) (ex : ∀ I : Nat → Nat → Int32, ol_sq ad I0 I → (∀ i, i < kn → I (ad 29) i = ol_e (P (1 + (ka + i)) t)) → ol_W p l e R s m args below meth c D cA A Q 7 ro I F cells slots 112 [some (.ref (ad 10)), some (.int (nI t)), some (.int (nI ka)), some (.int (nI u)), some (.int (nI kb)), some (.int (nI kn)), some (.int (nI kn))] []) : ∀ (d k : Nat) (I : Nat → Nat → Int32), k + d = kn → ol_sq ad I0 I → (∀ i, i < k → I (ad 29) i = ol_e (P (1 + (ka + i)) t)) → ol_W p l e R s m args below meth c D cA A Q 7 ro I F cells slots 78 [some (.ref (ad 10)), some (.int (nI t)), some (.int (nI ka)), some (.int (nI u)), some (.int (nI kb)), some (.int (nI kn)), some (.int (nI k))] [] := by
  have hm : ol_is ro (ad 10) (.inl 9) := hL.is 10 (by decide) (by decide) rfl
  have f_sorts : F (ad 10) 1 = some (ad 22) := hL.mf 1 22 (by decide)
  have i_sorts : ol_is ro (ad 22) (.inr (0, 40)) := hL.is 22 (by decide) (by decide) rfl
  have f_places : F (ad 10) 5 = some (ad 26) := hL.mf 5 26 (by decide)
  have i_places : ol_is ro (ad 26) (.inr (0, 240)) := hL.is 26 (by decide) (by decide) rfl
  have f_moved : F (ad 10) 8 = some (ad 29) := hL.mf 8 29 (by decide)
  have i_moved : ol_is ro (ad 29) (.inr (0, 6)) := hL.is 29 (by decide) (by decide) rfl
  have h40 := hV.1
  intro d
  induction d with
  | zero =>
    intro k I hk h1 h2
    have hk6 : k = kn := by omega
    subst hk6
    refine ol_iload C dX11_copy_78 rfl ?_
    refine ol_iload C dX11_copy_80 rfl ?_
    refine ol_icmp_ge (tgt := 112) C dX11_copy_82 (by decide) (fun c_82 => ?_) (fun c_82 => absurd (Int32.le_refl (nI k)) c_82)
    exact ex I h1 h2
  | succ d ih =>
    intro k I hk h1 h2
    have hk6 : k < kn := by omega
    have hv : I (ad 26) (6 * t + (ka + k)) = ol_e (P (1 + (ka + k)) t) := ((ol_MT.sq hL h1 hT).2 t ht).2.2.2.2.2.2 (ka + k) (by omega)
    refine ol_iload C dX11_copy_78 rfl ?_
    refine ol_iload C dX11_copy_80 rfl ?_
    refine ol_icmp_ge (tgt := 112) C dX11_copy_82 (by decide) (fun c_82 => absurd c_82 (nI_ge hk6 (by omega))) (fun c_82 => ?_)
    refine ol_aload_n C dX11_copy_85 rfl rfl (by first | exact ol_isq_r _ | exact ol_isq_q _ | exact ol_isq_n) ?_
    refine ol_gR (k := 8) C (by assumption) rfl rfl wd_588 (.inl rfl) dX11_copy_86 ?_
    refine ol_rf (by assumption) ?_
    refine ol_iload C dX11_copy_89 rfl ?_
    refine ol_aload_n C dX11_copy_91 rfl rfl (by first | exact ol_isq_r _ | exact ol_isq_q _ | exact ol_isq_n) ?_
    refine ol_gR (k := 5) C (by assumption) rfl rfl wd_585 (.inl rfl) dX11_copy_92 ?_
    refine ol_rf (by assumption) ?_
    refine ol_bipush (v := 6) C dX11_copy_95 (by decide) ?_
    refine ol_iload_n C dX11_copy_97 rfl rfl ?_
    refine ol_imul C dX11_copy_98 ?_
    refine ol_iload_n C dX11_copy_99 rfl rfl ?_
    refine ol_iadd C dX11_copy_100 ?_
    refine ol_iload C dX11_copy_101 rfl ?_
    refine ol_iadd C dX11_copy_103 ?_
    refine ol_lI (6 * t + (ka + k)) C (by assumption) (ol_maa rfl) (by omega) (by decide) dX11_copy_104 ?_
    refine ol_ti hv ?_
    refine ol_sI k C (by assumption) rfl (by omega) (by decide) dX11_copy_105 ?_
    refine ol_iincN C dX11_copy_106 rfl (by decide) ?_
    refine ol_goto (tgt := 78) C dX11_copy_109 (by decide) ?_
    refine ih (k + 1) _ (by omega) (h1.up _ (Or.inr (Or.inl rfl))) (fun i hi => ?_)
    by_cases e : i = k
    · subst e
      exact ol_u2_s _ _ _ _
    · rw [ol_u2_k I _ e]
      exact h2 i (by omega)

set_option maxRecDepth 100000 in
set_option maxHeartbeats 4000000 in
theorem lp_copy2 {p : Program} {l : Launch} {e : Env} {R : Room} {s : State} {m : MethodId} {args : Array Value} {below : List Frame} {meth : Method} {c : Code} {D : va_G} {cA : Nat → ClassId} {A : Nat → Prop} {Q : State → Prop} {ro : Nat → Nat} {F : Nat → Nat → Option Nat} {cells slots : Nat} (C : ol_Cx p s m args c cX11_copy 7 yX11_copy.cls D cA A) {ad : Nat → Nat} (hL : ol_L ro F ad) {I1 : Nat → Nat → Int32} {n : Nat} {So : Nat → Nat} {T : Nat → Nat → Int32} {P : Nat → Nat → Option Nat} (hT : ol_MT I1 ad n So T P) (hV : ol_V n So T P) {t u ka kb kn : Nat} (ht : t < n) (hu : u < n) (hka : ka + kn ≤ 6) (hkb : kb + kn ≤ 6) (hmv : ∀ i, i < kn → I1 (ad 29) i = ol_e (P (1 + (ka + i)) t)) (hR1 : ol_rm R (ol_r 0 0 0) 2 cells slots) (ex : ∀ I : Nat → Nat → Int32, ol_cp So P t ka u kn kn → (∀ a, a ≠ ad 26 → I a = I1 a) → (∀ i, i < kn → I (ad 26) (6 * u + (kb + i)) = ol_e (P (1 + (ka + i)) t)) → (∀ j, (∀ i, i < kn → j ≠ 6 * u + (kb + i)) → I (ad 26) j = I1 (ad 26) j) → ol_W p l e R s m args below meth c D cA A Q 7 ro I F cells slots 177 [some (.ref (ad 10)), some (.int (nI t)), some (.int (nI ka)), some (.int (nI u)), some (.int (nI kb)), some (.int (nI kn)), some (.int (nI kn))] []) (ex2 : ∀ (I : Nat → Nat → Int32) (k : Nat), k < kn → ol_cp So P t ka u kn k → (∀ a, a ≠ ad 26 → I a = I1 a) → (∀ i, i < k → I (ad 26) (6 * u + (kb + i)) = ol_e (P (1 + (ka + i)) t)) → (∀ j, (∀ i, i < k → j ≠ 6 * u + (kb + i)) → I (ad 26) j = I1 (ad 26) j) → ol_W p l e R s m args below meth c D cA A Q 7 ro I F cells slots 146 [some (.ref (ad 10)), some (.int (nI t)), some (.int (nI ka)), some (.int (nI u)), some (.int (nI kb)), some (.int (nI kn)), some (.int (nI k))] []) : ∀ (d k : Nat) (I : Nat → Nat → Int32), k + d = kn → (∀ i, i < k → ¬ (So u = 4 ∧ ol_br So (P (1 + (ka + i)) t))) → (∀ a, a ≠ ad 26 → I a = I1 a) → (∀ i, i < k → I (ad 26) (6 * u + (kb + i)) = ol_e (P (1 + (ka + i)) t)) → (∀ j, (∀ i, i < k → j ≠ 6 * u + (kb + i)) → I (ad 26) j = I1 (ad 26) j) → ol_W p l e R s m args below meth c D cA A Q 7 ro I F cells slots 115 [some (.ref (ad 10)), some (.int (nI t)), some (.int (nI ka)), some (.int (nI u)), some (.int (nI kb)), some (.int (nI kn)), some (.int (nI k))] [] := by
  have hm : ol_is ro (ad 10) (.inl 9) := hL.is 10 (by decide) (by decide) rfl
  have f_sorts : F (ad 10) 1 = some (ad 22) := hL.mf 1 22 (by decide)
  have i_sorts : ol_is ro (ad 22) (.inr (0, 40)) := hL.is 22 (by decide) (by decide) rfl
  have f_places : F (ad 10) 5 = some (ad 26) := hL.mf 5 26 (by decide)
  have i_places : ol_is ro (ad 26) (.inr (0, 240)) := hL.is 26 (by decide) (by decide) rfl
  have f_moved : F (ad 10) 8 = some (ad 29) := hL.mf 8 29 (by decide)
  have i_moved : ol_is ro (ad 29) (.inr (0, 6)) := hL.is 29 (by decide) (by decide) rfl
  have h40 := hV.1
  have n22_26 : ad 22 ≠ ad 26 := hL.ne (by decide) (by decide) (by decide)
  have n29_26 : ad 29 ≠ ad 26 := hL.ne (by decide) (by decide) (by decide)
  intro d
  induction d with
  | zero =>
    intro k I hk h0 h1 h2 h3
    have hk6 : k = kn := by omega
    subst hk6
    refine ol_iload C dX11_copy_115 rfl ?_
    refine ol_iload C dX11_copy_117 rfl ?_
    refine ol_icmp_ge (tgt := 177) C dX11_copy_119 (by decide) (fun c_119 => ?_) (fun c_119 => absurd (Int32.le_refl (nI k)) c_119)
    exact ex I ⟨Nat.le_refl _, h0, fun q => absurd q (Nat.lt_irrefl _)⟩ h1 h2 h3
  | succ d ih =>
    intro k I hk h0 h1 h2 h3
    have hk6 : k < kn := by omega
    have es : I (ad 22) u = nI (So u) := (congrFun (h1 _ n22_26) u).trans (hT.2 u hu).1
    have em : I (ad 29) k = ol_e (P (1 + (ka + k)) t) := (congrFun (h1 _ n29_26) k).trans (hmv k hk6)
    have hTs : ∀ q : Option Nat, (∀ w, q = some w → w < n) → ((∃ w, q = some w ∧ I (ad 22) w = 2) ↔ ol_br So q) := by
      intro q hq
      rw [h1 _ n22_26]
      exact ol_brI hT hV hq
    have hq := (hV.2 t ht).2.2 (1 + (ka + k)) (by omega)
    have hB := mm_isBridge l D cA (I := I) hL hV.1 hq
    rw [ol_p_c (hTs _ hq)] at hB
    refine ol_iload C dX11_copy_115 rfl ?_
    refine ol_iload C dX11_copy_117 rfl ?_
    refine ol_icmp_ge (tgt := 177) C dX11_copy_119 (by decide) (fun c_119 => absurd c_119 (nI_ge hk6 (by omega))) (fun c_119 => ?_)
    refine ol_aload_n C dX11_copy_122 rfl rfl (by first | exact ol_isq_r _ | exact ol_isq_q _ | exact ol_isq_n) ?_
    refine ol_gR (k := 1) C (by assumption) rfl rfl wd_581 (.inl rfl) dX11_copy_123 ?_
    refine ol_rf (by assumption) ?_
    refine ol_iload_n C dX11_copy_126 rfl rfl ?_
    refine ol_lI u C (by assumption) rfl (by omega) (by decide) dX11_copy_127 ?_
    refine ol_ti es ?_
    refine ol_iconst (v := 4) C dX11_copy_128 (by decide) ?_
    refine ol_icmp_ne (tgt := 149) C dX11_copy_129 (by decide) (fun c_129 => ?_) (fun c_129 => ?_)
    · refine ol_aload_n C dX11_copy_149 rfl rfl (by first | exact ol_isq_r _ | exact ol_isq_q _ | exact ol_isq_n) ?_
      refine ol_gR (k := 5) C (by assumption) rfl rfl wd_585 (.inl rfl) dX11_copy_150 ?_
      refine ol_rf (by assumption) ?_
      refine ol_bipush (v := 6) C dX11_copy_153 (by decide) ?_
      refine ol_iload_n C dX11_copy_155 rfl rfl ?_
      refine ol_imul C dX11_copy_156 ?_
      refine ol_iload C dX11_copy_157 rfl ?_
      refine ol_iadd C dX11_copy_159 ?_
      refine ol_iload C dX11_copy_160 rfl ?_
      refine ol_iadd C dX11_copy_162 ?_
      refine ol_aload_n C dX11_copy_163 rfl rfl (by first | exact ol_isq_r _ | exact ol_isq_q _ | exact ol_isq_n) ?_
      refine ol_gR (k := 8) C (by assumption) rfl rfl wd_588 (.inl rfl) dX11_copy_164 ?_
      refine ol_rf (by assumption) ?_
      refine ol_iload C dX11_copy_167 rfl ?_
      refine ol_lI k C (by assumption) rfl (by omega) (by decide) dX11_copy_169 ?_
      refine ol_ti em ?_
      refine ol_sI (6 * u + (kb + k)) C (by assumption) (ol_maa rfl) (by omega) (by decide) dX11_copy_170 ?_
      refine ol_iincN C dX11_copy_171 rfl (by decide) ?_
      refine ol_goto (tgt := 115) C dX11_copy_174 (by decide) ?_
      have hnb : ¬ (So u = 4 ∧ ol_br So (P (1 + (ka + k)) t)) := fun q => c_129 (by rw [q.1]; rfl)
      refine ih (k + 1) _ (by omega) (fun i hi => ?_) (fun a ha => (ol_u2_a I _ ha).trans (h1 a ha)) (fun i hi => ?_) (fun j hj => ?_)
      · by_cases e : i = k
        · subst e
          exact hnb
        · exact h0 i (by omega)
      · by_cases e : i = k
        · subst e
          exact ol_u2_s _ _ _ _
        · rw [ol_u2_k I _ (by omega)]
          exact h2 i (by omega)
      · rw [ol_u2_k I _ (hj k (by omega))]
        exact h3 j (fun i hi => hj i (by omega))
    · refine ol_aload_n C dX11_copy_132 rfl rfl (by first | exact ol_isq_r _ | exact ol_isq_q _ | exact ol_isq_n) ?_
      refine ol_aload_n C dX11_copy_133 rfl rfl (by first | exact ol_isq_r _ | exact ol_isq_q _ | exact ol_isq_n) ?_
      refine ol_gR (k := 8) C (by assumption) rfl rfl wd_588 (.inl rfl) dX11_copy_134 ?_
      refine ol_rf (by assumption) ?_
      refine ol_iload C dX11_copy_137 rfl ?_
      refine ol_lI k C (by assumption) rfl (by omega) (by decide) dX11_copy_139 ?_
      refine ol_ti em ?_
      refine ol_callV C hB hm.1 hm.2 rfl wd_711 wd_4 wd_708 wd_710 wq_13 mh_X11_isBridge hR1 rfl (by first | exact Nat.le_of_ble_eq_true rfl | simp [ol_rfc, Value.category]) dX11_copy_140 (ol_xi ?_)
      refine ol_if_eq (tgt := 149) C dX11_copy_143 (by decide) (fun c_143 => ?_) (fun c_143 => ?_)
      · refine ol_aload_n C dX11_copy_149 rfl rfl (by first | exact ol_isq_r _ | exact ol_isq_q _ | exact ol_isq_n) ?_
        refine ol_gR (k := 5) C (by assumption) rfl rfl wd_585 (.inl rfl) dX11_copy_150 ?_
        refine ol_rf (by assumption) ?_
        refine ol_bipush (v := 6) C dX11_copy_153 (by decide) ?_
        refine ol_iload_n C dX11_copy_155 rfl rfl ?_
        refine ol_imul C dX11_copy_156 ?_
        refine ol_iload C dX11_copy_157 rfl ?_
        refine ol_iadd C dX11_copy_159 ?_
        refine ol_iload C dX11_copy_160 rfl ?_
        refine ol_iadd C dX11_copy_162 ?_
        refine ol_aload_n C dX11_copy_163 rfl rfl (by first | exact ol_isq_r _ | exact ol_isq_q _ | exact ol_isq_n) ?_
        refine ol_gR (k := 8) C (by assumption) rfl rfl wd_588 (.inl rfl) dX11_copy_164 ?_
        refine ol_rf (by assumption) ?_
        refine ol_iload C dX11_copy_167 rfl ?_
        refine ol_lI k C (by assumption) rfl (by omega) (by decide) dX11_copy_169 ?_
        refine ol_ti em ?_
        refine ol_sI (6 * u + (kb + k)) C (by assumption) (ol_maa rfl) (by omega) (by decide) dX11_copy_170 ?_
        refine ol_iincN C dX11_copy_171 rfl (by decide) ?_
        refine ol_goto (tgt := 115) C dX11_copy_174 (by decide) ?_
        have hnb : ¬ (So u = 4 ∧ ol_br So (P (1 + (ka + k)) t)) := fun q => ol_p_0.mp c_143 q.2
        refine ih (k + 1) _ (by omega) (fun i hi => ?_) (fun a ha => (ol_u2_a I _ ha).trans (h1 a ha)) (fun i hi => ?_) (fun j hj => ?_)
        · by_cases e : i = k
          · subst e
            exact hnb
          · exact h0 i (by omega)
        · by_cases e : i = k
          · subst e
            exact ol_u2_s _ _ _ _
          · rw [ol_u2_k I _ (by omega)]
            exact h2 i (by omega)
        · rw [ol_u2_k I _ (hj k (by omega))]
          exact h3 j (fun i hi => hj i (by omega))
      · exact ex2 I k hk6 ⟨by omega, h0, fun _ => ⟨(ol_nIk (k := 4) (hV.2 u hu).1 (by decide)).mp c_129, ol_p_n.mp c_143⟩⟩ h1 h2 h3

set_option maxRecDepth 100000 in
set_option maxHeartbeats 4000000 in
theorem mm_copy (l : Launch) (D : va_G) (cA : Nat → ClassId) {ro : Nat → Nat} {I : Nat → Nat → Int32} {F : Nat → Nat → Option Nat} {ad : Nat → Nat} (hL : ol_L ro F ad) {n : Nat} {So : Nat → Nat} {T : Nat → Nat → Int32} {P : Nat → Nat → Option Nat} (hT : ol_MT I ad n So T P) (hV : ol_V n So T P) (t a u b k : Int32) : ol_M l D cA yX11_copy cX11_copy 7 (some FieldType.int) (ol_r 2 0 0) [.ref (ad 10), .int t, .int a, .int u, .int b, .int k] ro I F (fun v ro' I' F' => ro' = ro ∧ F' = F ∧ ((¬ (ol_k n t ∧ ol_k n u) ∧ v = some (.int (-1000001)) ∧ I' = I) ∨ ((ol_k n t ∧ ol_k n u) ∧ ¬ (ol_stt a k ∧ ol_stt b k) ∧ v = some (.int (-1000012)) ∧ I' = I) ∨ ∃ (jt ju ka kb kn m : Nat) (I1 : Nat → Nat → Int32), t = nI jt ∧ u = nI ju ∧ jt < n ∧ ju < n ∧ a = nI ka ∧ b = nI kb ∧ k = nI kn ∧ ka + kn ≤ 6 ∧ kb + kn ≤ 6 ∧ ol_cp So P jt ka ju kn m ∧ v = some (.int (ol_if (m < kn) (-1000015) 1)) ∧ ol_sq ad I I1 ∧ (∀ a, a ≠ ad 26 → I' a = I1 a) ∧ (∀ i, i < m → I' (ad 26) (6 * ju + (kb + i)) = ol_e (P (1 + (ka + i)) jt)) ∧ ∀ j, (∀ i, i < m → j ≠ 6 * ju + (kb + i)) → I' (ad 26) j = I1 (ad 26) j)) := by
  refine ol_M.of (by decide +kernel) (Nat.le_of_ble_eq_true rfl) (by simp [Value.category, ol_rfc]) ?_
  intro p e s m args below meth c C hret hlk hin
  have hm : ol_is ro (ad 10) (.inl 9) := hL.is 10 (by decide) (by decide) rfl
  have f_sorts : F (ad 10) 1 = some (ad 22) := hL.mf 1 22 (by decide)
  have i_sorts : ol_is ro (ad 22) (.inr (0, 40)) := hL.is 22 (by decide) (by decide) rfl
  have f_places : F (ad 10) 5 = some (ad 26) := hL.mf 5 26 (by decide)
  have i_places : ol_is ro (ad 26) (.inr (0, 240)) := hL.is 26 (by decide) (by decide) rfl
  have f_moved : F (ad 10) 8 = some (ad 29) := hL.mf 8 29 (by decide)
  have i_moved : ol_is ro (ad 29) (.inr (0, 6)) := hL.is 29 (by decide) (by decide) rfl
  have h40 := hV.1
  have hn := hT.1
  refine ol_aload_n C dX11_copy_0 rfl rfl (by first | exact ol_isq_r _ | exact ol_isq_q _ | exact ol_isq_n) ?_
  refine ol_iload_n C dX11_copy_1 rfl rfl ?_
  refine ol_callV C (mm_isThing l D cA hL hn h40 t) hm.1 hm.2 rfl wd_685 wd_4 wd_682 wd_684 wq_12 mh_X11_isThing (by decide) rfl (by first | exact Nat.le_of_ble_eq_true rfl | simp [ol_rfc, Value.category]) dX11_copy_2 (ol_xi ?_)
  refine ol_if_eq (tgt := 16) C dX11_copy_5 (by decide) (fun c_5 => ?_) (fun c_5 => ?_)
  · have hKK : ¬ (ol_k n t ∧ ol_k n u) := fun q => ol_p_0.mp c_5 q.1
    refine ol_ldc (v := (-1000001)) C wd_686 dX11_copy_16 ?_
    exact ol_iret C hret hlk rfl (by decide) (by decide) dX11_copy_18 ⟨rfl, rfl, Or.inl ⟨hKK, rfl, rfl⟩⟩
  · refine ol_aload_n C dX11_copy_8 rfl rfl (by first | exact ol_isq_r _ | exact ol_isq_q _ | exact ol_isq_n) ?_
    refine ol_iload_n C dX11_copy_9 rfl rfl ?_
    refine ol_callV C (mm_isThing l D cA hL hn h40 u) hm.1 hm.2 rfl wd_685 wd_4 wd_682 wd_684 wq_12 mh_X11_isThing (by decide) rfl (by first | exact Nat.le_of_ble_eq_true rfl | simp [ol_rfc, Value.category]) dX11_copy_10 (ol_xi ?_)
    refine ol_if_ne (tgt := 19) C dX11_copy_13 (by decide) (fun c_13 => ?_) (fun c_13 => ?_)
    · have hKK : ol_k n t ∧ ol_k n u := ⟨ol_p_n.mp c_5, ol_p_n.mp c_13⟩
      refine ol_iload_n C dX11_copy_19 rfl rfl ?_
      refine ol_if_lt (tgt := 72) C dX11_copy_20 (by decide) (fun c_20 => ?_) (fun c_20 => ?_)
      · refine ol_ldc (v := (-1000012)) C wd_707 dX11_copy_72 ?_
        exact ol_iret C hret hlk rfl (by decide) (by decide) dX11_copy_74 ⟨rfl, rfl, Or.inr (Or.inl ⟨hKK, fun q => (ol_stt_ge q.1).1 c_20, rfl, rfl⟩)⟩
      · refine ol_iload C dX11_copy_23 rfl ?_
        refine ol_if_lt (tgt := 72) C dX11_copy_25 (by decide) (fun c_25 => ?_) (fun c_25 => ?_)
        · refine ol_ldc (v := (-1000012)) C wd_707 dX11_copy_72 ?_
          exact ol_iret C hret hlk rfl (by decide) (by decide) dX11_copy_74 ⟨rfl, rfl, Or.inr (Or.inl ⟨hKK, fun q => (ol_stt_ge q.2).1 c_25, rfl, rfl⟩)⟩
        · refine ol_iload C dX11_copy_28 rfl ?_
          refine ol_if_lt (tgt := 72) C dX11_copy_30 (by decide) (fun c_30 => ?_) (fun c_30 => ?_)
          · refine ol_ldc (v := (-1000012)) C wd_707 dX11_copy_72 ?_
            exact ol_iret C hret hlk rfl (by decide) (by decide) dX11_copy_74 ⟨rfl, rfl, Or.inr (Or.inl ⟨hKK, fun q => (ol_stt_ge q.1).2.1 c_30, rfl, rfl⟩)⟩
          · refine ol_iload_n C dX11_copy_33 rfl rfl ?_
            refine ol_bipush (v := 6) C dX11_copy_34 (by decide) ?_
            refine ol_icmp_gt (tgt := 72) C dX11_copy_36 (by decide) (fun c_36 => ?_) (fun c_36 => ?_)
            · refine ol_ldc (v := (-1000012)) C wd_707 dX11_copy_72 ?_
              exact ol_iret C hret hlk rfl (by decide) (by decide) dX11_copy_74 ⟨rfl, rfl, Or.inr (Or.inl ⟨hKK, fun q => (ol_stt_ge q.1).2.2.1 c_36, rfl, rfl⟩)⟩
            · refine ol_iload C dX11_copy_39 rfl ?_
              refine ol_bipush (v := 6) C dX11_copy_41 (by decide) ?_
              refine ol_icmp_gt (tgt := 72) C dX11_copy_43 (by decide) (fun c_43 => ?_) (fun c_43 => ?_)
              · refine ol_ldc (v := (-1000012)) C wd_707 dX11_copy_72 ?_
                exact ol_iret C hret hlk rfl (by decide) (by decide) dX11_copy_74 ⟨rfl, rfl, Or.inr (Or.inl ⟨hKK, fun q => (ol_stt_ge q.2).2.2.1 c_43, rfl, rfl⟩)⟩
              · refine ol_iload C dX11_copy_46 rfl ?_
                refine ol_bipush (v := 6) C dX11_copy_48 (by decide) ?_
                refine ol_icmp_gt (tgt := 72) C dX11_copy_50 (by decide) (fun c_50 => ?_) (fun c_50 => ?_)
                · refine ol_ldc (v := (-1000012)) C wd_707 dX11_copy_72 ?_
                  exact ol_iret C hret hlk rfl (by decide) (by decide) dX11_copy_74 ⟨rfl, rfl, Or.inr (Or.inl ⟨hKK, fun q => (ol_stt_ge q.1).2.2.2.1 c_50, rfl, rfl⟩)⟩
                · refine ol_iload_n C dX11_copy_53 rfl rfl ?_
                  refine ol_iload C dX11_copy_54 rfl ?_
                  refine ol_iadd C dX11_copy_56 ?_
                  refine ol_bipush (v := 6) C dX11_copy_57 (by decide) ?_
                  refine ol_icmp_gt (tgt := 72) C dX11_copy_59 (by decide) (fun c_59 => ?_) (fun c_59 => ?_)
                  · refine ol_ldc (v := (-1000012)) C wd_707 dX11_copy_72 ?_
                    exact ol_iret C hret hlk rfl (by decide) (by decide) dX11_copy_74 ⟨rfl, rfl, Or.inr (Or.inl ⟨hKK, fun q => (ol_stt_ge q.1).2.2.2.2 c_59, rfl, rfl⟩)⟩
                  · refine ol_iload C dX11_copy_62 rfl ?_
                    refine ol_iload C dX11_copy_64 rfl ?_
                    refine ol_iadd C dX11_copy_66 ?_
                    refine ol_bipush (v := 6) C dX11_copy_67 (by decide) ?_
                    refine ol_icmp_le (tgt := 75) C dX11_copy_69 (by decide) (fun c_69 => ?_) (fun c_69 => ?_)
                    · have hsa : ol_stt a k := ol_stt_of c_20 c_30 c_36 c_50 c_59
                      have hsb : ol_stt b k := ol_stt_of c_25 c_30 c_43 c_50 (ol_le_nlt c_69)
                      obtain ⟨jt, hjt, rfl, -⟩ := ol_k_ix hKK.1 h40
                      obtain ⟨ju, hju, rfl, -⟩ := ol_k_ix hKK.2 h40
                      refine ol_iconst (v := 0) C dX11_copy_75 (by decide) ?_
                      refine ol_istore C dX11_copy_76 (by decide) ?_
                      obtain ⟨ka, kn, rfl, rfl, hka⟩ := hsa
                      obtain ⟨kb, kn2, rfl, en, hkb⟩ := hsb
                      have en2 : kn = kn2 := (nI_eq (by omega) (by omega)).mp en
                      subst en2
                      have hTj := hT
                      refine lp_copy1 C hL hT hV hjt hju hka hkb (by decide) (fun I1 x1 x2 => ?_) kn 0 _ (by omega) (ol_sq_rf ad I) (fun i hi => absurd hi (by omega))
                      refine ol_iconst (v := 0) C dX11_copy_112 (by decide) ?_
                      refine ol_istore C dX11_copy_113 (by decide) ?_
                      refine lp_copy2 C hL (ol_MT.sq hL x1 hT) hV hjt hju hka hkb x2 (by decide) (fun I2 cp y1 y2 y3 => ?_) (fun I2 m hm2 cp y1 y2 y3 => ?_) kn 0 _ (by omega) (fun i hi => absurd hi (by omega)) (fun _ _ => rfl) (fun i hi => absurd hi (by omega)) (fun _ _ => rfl)
                      · refine ol_iconst (v := 1) C dX11_copy_177 (by decide) ?_
                        exact ol_iret C hret hlk rfl (by decide) (by decide) dX11_copy_178 ⟨rfl, rfl, Or.inr (Or.inr ⟨jt, ju, ka, kb, kn, kn, I1, rfl, rfl, hjt, hju, rfl, rfl, rfl, hka, hkb, cp, by rw [ol_if_f (Nat.lt_irrefl _)], x1, y1, y2, y3⟩)⟩
                      · refine ol_ldc (v := (-1000015)) C wd_712 dX11_copy_146 ?_
                        exact ol_iret C hret hlk rfl (by decide) (by decide) dX11_copy_148 ⟨rfl, rfl, Or.inr (Or.inr ⟨jt, ju, ka, kb, kn, m, I1, rfl, rfl, hjt, hju, rfl, rfl, rfl, hka, hkb, cp, by rw [ol_if_t hm2], x1, y1, y2, y3⟩)⟩
                    · refine ol_ldc (v := (-1000012)) C wd_707 dX11_copy_72 ?_
                      exact ol_iret C hret hlk rfl (by decide) (by decide) dX11_copy_74 ⟨rfl, rfl, Or.inr (Or.inl ⟨hKK, fun q => (ol_stt_ge q.2).2.2.2.2 (ol_nle_lt c_69), rfl, rfl⟩)⟩
    · have hKK : ¬ (ol_k n t ∧ ol_k n u) := fun q => ol_p_0.mp c_13 q.2
      refine ol_ldc (v := (-1000001)) C wd_686 dX11_copy_16 ?_
      exact ol_iret C hret hlk rfl (by decide) (by decide) dX11_copy_18 ⟨rfl, rfl, Or.inl ⟨hKK, rfl, rfl⟩⟩
