set_option maxRecDepth 100000 in
set_option maxHeartbeats 4000000 in
theorem lp_links {p : Program} {l : Launch} {e : Env} {R : Room} {s : State} {m : MethodId} {args : Array Value} {below : List Frame} {meth : Method} {c : Code} {D : va_G} {cA : Nat → ClassId} {A : Nat → Prop} {Q : State → Prop} {ro : Nat → Nat} {F : Nat → Nat → Option Nat} {cells slots : Nat} (C : ol_Cx p s m args c cX11_tellLinks 5 yX11_tellLinks.cls D cA A) {ad : Nat → Nat} (hL : ol_L ro F ad) {I0 : Nat → Nat → Int32} {n : Nat} {So : Nat → Nat} {T : Nat → Nat → Int32} {P : Nat → Nat → Option Nat} (hT : ol_MT I0 ad n So T P) (hV : ol_V n So T P) {t : Nat} (ht : t < n) (hR1 : ol_rm R (ol_r 0 0 0) 2 cells slots) (ex : ∀ (I : Nat → Nat → Int32) (why : Int32), ol_sq ad I0 I → (∀ i, i < 6 → I (ad 30) i = ol_e (P (1 + i) t)) → why = ol_if (So t = 4 ∧ ∃ i, i < 6 ∧ ol_br So (P (1 + i) t)) 3 0 → ol_W p l e R s m args below meth c D cA A Q 5 ro I F cells slots 134 [some (.ref (ad 10)), some (.int (nI t)), some (.int (nI (So t))), some (.int why), some (.int (nI 6))] []) : ∀ (d k : Nat) (I : Nat → Nat → Int32) (why : Int32), k + d = 6 → ol_sq ad I0 I → (∀ i, i < k → I (ad 30) i = ol_e (P (1 + i) t)) → why = ol_if (So t = 4 ∧ ∃ i, i < k ∧ ol_br So (P (1 + i) t)) 3 0 → ol_W p l e R s m args below meth c D cA A Q 5 ro I F cells slots 77 [some (.ref (ad 10)), some (.int (nI t)), some (.int (nI (So t))), some (.int why), some (.int (nI k))] [] := by
  have hm : ol_is ro (ad 10) (.inl 9) := hL.is 10 (by decide) (by decide) rfl
  have f_sorts : F (ad 10) 1 = some (ad 22) := hL.mf 1 22 (by decide)
  have i_sorts : ol_is ro (ad 22) (.inr (0, 40)) := hL.is 22 (by decide) (by decide) rfl
  have f_vs : F (ad 10) 3 = some (ad 24) := hL.mf 3 24 (by decide)
  have i_vs : ol_is ro (ad 24) (.inr (0, 40)) := hL.is 24 (by decide) (by decide) rfl
  have f_nexts : F (ad 10) 4 = some (ad 25) := hL.mf 4 25 (by decide)
  have i_nexts : ol_is ro (ad 25) (.inr (0, 40)) := hL.is 25 (by decide) (by decide) rfl
  have f_places : F (ad 10) 5 = some (ad 26) := hL.mf 5 26 (by decide)
  have i_places : ol_is ro (ad 26) (.inr (0, 240)) := hL.is 26 (by decide) (by decide) rfl
  have f_links : F (ad 10) 10 = some (ad 30) := hL.mf 10 30 (by decide)
  have i_links : ol_is ro (ad 30) (.inr (0, 6)) := hL.is 30 (by decide) (by decide) rfl
  have h40 := hV.1
  have s6 := (hV.2 t ht).1
  intro d
  induction d with
  | zero =>
    intro k I why hk h1 h2 h3
    have hk6 : k = 6 := by omega
    subst hk6
    refine ol_iload C dX11_tellLinks_77 rfl ?_
    refine ol_bipush (v := 6) C dX11_tellLinks_79 (by decide) ?_
    refine ol_icmp_ge (tgt := 134) C dX11_tellLinks_81 (by decide) (fun c_81 => ?_) (fun c_81 => absurd (show (6 : Int32) ≤ nI 6 by decide) c_81)
    exact ex I why h1 h2 h3
  | succ d ih =>
    intro k I why hk h1 h2 h3
    have hk6 : k < 6 := by omega
    have hv : I (ad 26) (6 * t + k) = ol_e (P (1 + k) t) := ((ol_MT.sq hL h1 hT).2 t ht).2.2.2.2.2.2 k hk6
    have hln : ∀ i, i < k + 1 → ol_u2 I (ad 30) k (ol_e (P (1 + k) t)) (ad 30) i = ol_e (P (1 + i) t) := by
      intro i hi
      by_cases e : i = k
      · subst e
        exact ol_u2_s _ _ _ _
      · rw [ol_u2_k I _ e]
        exact h2 i (by omega)
    have hq := (hV.2 t ht).2.2 (1 + k) (by omega)
    refine ol_iload C dX11_tellLinks_77 rfl ?_
    refine ol_bipush (v := 6) C dX11_tellLinks_79 (by decide) ?_
    refine ol_icmp_ge (tgt := 134) C dX11_tellLinks_81 (by decide) (fun c_81 => absurd c_81 (nI_ge (b := 6) hk6 (by decide))) (fun c_81 => ?_)
    refine ol_aload_n C dX11_tellLinks_84 rfl rfl (by first | exact ol_isq_r _ | exact ol_isq_q _ | exact ol_isq_n) ?_
    refine ol_gR (k := 10) C (by assumption) rfl rfl wd_590 (.inl rfl) dX11_tellLinks_85 ?_
    refine ol_rf (by assumption) ?_
    refine ol_iload C dX11_tellLinks_88 rfl ?_
    refine ol_aload_n C dX11_tellLinks_90 rfl rfl (by first | exact ol_isq_r _ | exact ol_isq_q _ | exact ol_isq_n) ?_
    refine ol_gR (k := 5) C (by assumption) rfl rfl wd_585 (.inl rfl) dX11_tellLinks_91 ?_
    refine ol_rf (by assumption) ?_
    refine ol_bipush (v := 6) C dX11_tellLinks_94 (by decide) ?_
    refine ol_iload_n C dX11_tellLinks_96 rfl rfl ?_
    refine ol_imul C dX11_tellLinks_97 ?_
    refine ol_iload C dX11_tellLinks_98 rfl ?_
    refine ol_iadd C dX11_tellLinks_100 ?_
    refine ol_lI (6 * t + k) C (by assumption) (ol_ma rfl) (by omega) (by decide) dX11_tellLinks_101 ?_
    refine ol_ti hv ?_
    refine ol_sI k C (by assumption) rfl hk6 (by decide) dX11_tellLinks_102 ?_
    refine ol_iload_n C dX11_tellLinks_103 rfl rfl ?_
    refine ol_iconst (v := 4) C dX11_tellLinks_104 (by decide) ?_
    refine ol_icmp_ne (tgt := 126) C dX11_tellLinks_105 (by decide) (fun c_105 => ?_) (fun c_105 => ?_)
    · refine ol_iload_n C dX11_tellLinks_126 rfl rfl ?_
      refine ol_istore_n C dX11_tellLinks_127 rfl (by decide) ?_
      refine ol_iincN C dX11_tellLinks_128 rfl (by decide) ?_
      refine ol_goto (tgt := 77) C dX11_tellLinks_131 (by decide) ?_
      have hwy : why = ol_if (So t = 4 ∧ ∃ i, i < (k + 1) ∧ ol_br So (P (1 + i) t)) 3 0 := by
        have c4 : ¬ So t = 4 := fun q => c_105 (by rw [q]; rfl)
        rw [h3, ol_if_f (fun q => c4 q.1), ol_if_f (fun q => c4 q.1)]
      exact ih (k + 1) _ _ (by omega) (h1.up _ (Or.inr (Or.inr rfl))) hln hwy
    · refine ol_aload_n C dX11_tellLinks_108 rfl rfl (by first | exact ol_isq_r _ | exact ol_isq_q _ | exact ol_isq_n) ?_
      refine ol_aload_n C dX11_tellLinks_109 rfl rfl (by first | exact ol_isq_r _ | exact ol_isq_q _ | exact ol_isq_n) ?_
      refine ol_gR (k := 10) C (by assumption) rfl rfl wd_590 (.inl rfl) dX11_tellLinks_110 ?_
      refine ol_rf (by assumption) ?_
      refine ol_iload C dX11_tellLinks_113 rfl ?_
      refine ol_lI k C (by assumption) rfl hk6 (by decide) dX11_tellLinks_115 ?_
      rw [ol_u2_s]
      refine ol_callV C (mm_isB l D cA hL (ol_MT.sq hL (h1.up _ (Or.inr (Or.inr rfl))) hT) hV hq) hm.1 hm.2 rfl wd_711 wd_4 wd_708 wd_710 wq_13 mh_X11_isBridge hR1 rfl (by first | exact Nat.le_of_ble_eq_true rfl | simp [ol_rfc, Value.category]) dX11_tellLinks_116 (ol_xi ?_)
      refine ol_if_eq (tgt := 126) C dX11_tellLinks_119 (by decide) (fun c_119 => ?_) (fun c_119 => ?_)
      · refine ol_iload_n C dX11_tellLinks_126 rfl rfl ?_
        refine ol_istore_n C dX11_tellLinks_127 rfl (by decide) ?_
        refine ol_iincN C dX11_tellLinks_128 rfl (by decide) ?_
        refine ol_goto (tgt := 77) C dX11_tellLinks_131 (by decide) ?_
        have hwy : why = ol_if (So t = 4 ∧ ∃ i, i < (k + 1) ∧ ol_br So (P (1 + i) t)) 3 0 := by
          rw [h3]
          exact congrArg (fun z => ol_if z (3 : Int32) 0) (propext (ol_ex_no (ol_p_0.mp c_119)))
        exact ih (k + 1) _ _ (by omega) (h1.up _ (Or.inr (Or.inr rfl))) hln hwy
      · refine ol_iconst (v := 3) C dX11_tellLinks_122 (by decide) ?_
        refine ol_goto (tgt := 127) C dX11_tellLinks_123 (by decide) ?_
        refine ol_istore_n C dX11_tellLinks_127 rfl (by decide) ?_
        refine ol_iincN C dX11_tellLinks_128 rfl (by decide) ?_
        refine ol_goto (tgt := 77) C dX11_tellLinks_131 (by decide) ?_
        have c4 : So t = 4 := (ol_nIk (k := 4) s6 (by decide)).mp c_105
        have hwy : (3 : Int32) = ol_if (So t = 4 ∧ ∃ i, i < (k + 1) ∧ ol_br So (P (1 + i) t)) 3 0 := by
          rw [ol_if_t ⟨c4, k, by omega, ol_p_n.mp c_119⟩]
        exact ih (k + 1) _ _ (by omega) (h1.up _ (Or.inr (Or.inr rfl))) hln hwy

set_option maxRecDepth 100000 in
set_option maxHeartbeats 4000000 in
theorem mm_tellLinks (l : Launch) (D : va_G) (cA : Nat → ClassId) {ro : Nat → Nat} {I : Nat → Nat → Int32} {F : Nat → Nat → Option Nat} {ad : Nat → Nat} (hL : ol_L ro F ad) {n : Nat} {So : Nat → Nat} {T : Nat → Nat → Int32} {P : Nat → Nat → Option Nat} (hT : ol_MT I ad n So T P) (hV : ol_V n So T P) {t : Nat} (ht : t < n) : ol_M l D cA yX11_tellLinks cX11_tellLinks 5 (some FieldType.int) (ol_r 1 0 0) [.ref (ad 10), .int (nI t)] ro I F (fun v ro' I' F' => v = some (.int (sp_lc So T P t)) ∧ ro' = ro ∧ F' = F ∧ ol_sq ad I I' ∧ (sp_lc So T P t = 0 → I' (ad 10) 11 = nI (sp_ln So P t) ∧ ∀ i, i < sp_ln So P t → I' (ad 30) i = ol_e (sp_lk So T P t i))) := by
  refine ol_M.of (by decide +kernel) (Nat.le_of_ble_eq_true rfl) (by simp [Value.category, ol_rfc]) ?_
  intro p e s m args below meth c C hret hlk hin
  have hm : ol_is ro (ad 10) (.inl 9) := hL.is 10 (by decide) (by decide) rfl
  have f_sorts : F (ad 10) 1 = some (ad 22) := hL.mf 1 22 (by decide)
  have i_sorts : ol_is ro (ad 22) (.inr (0, 40)) := hL.is 22 (by decide) (by decide) rfl
  have f_vs : F (ad 10) 3 = some (ad 24) := hL.mf 3 24 (by decide)
  have i_vs : ol_is ro (ad 24) (.inr (0, 40)) := hL.is 24 (by decide) (by decide) rfl
  have f_nexts : F (ad 10) 4 = some (ad 25) := hL.mf 4 25 (by decide)
  have i_nexts : ol_is ro (ad 25) (.inr (0, 40)) := hL.is 25 (by decide) (by decide) rfl
  have f_places : F (ad 10) 5 = some (ad 26) := hL.mf 5 26 (by decide)
  have i_places : ol_is ro (ad 26) (.inr (0, 240)) := hL.is 26 (by decide) (by decide) rfl
  have f_links : F (ad 10) 10 = some (ad 30) := hL.mf 10 30 (by decide)
  have i_links : ol_is ro (ad 30) (.inr (0, 6)) := hL.is 30 (by decide) (by decide) rfl
  have n22_10 : ad 22 ≠ ad 10 := hL.ne (by decide) (by decide) (by decide)
  have n24_10 : ad 24 ≠ ad 10 := hL.ne (by decide) (by decide) (by decide)
  have n26_10 : ad 26 ≠ ad 10 := hL.ne (by decide) (by decide) (by decide)
  have n25_10 : ad 25 ≠ ad 10 := hL.ne (by decide) (by decide) (by decide)
  have n30_10 : ad 30 ≠ ad 10 := hL.ne (by decide) (by decide) (by decide)
  have n24_30 : ad 24 ≠ ad 30 := hL.ne (by decide) (by decide) (by decide)
  have n26_30 : ad 26 ≠ ad 30 := hL.ne (by decide) (by decide) (by decide)
  have n10_30 : ad 10 ≠ ad 30 := hL.ne (by decide) (by decide) (by decide)
  have n25_30 : ad 25 ≠ ad 30 := hL.ne (by decide) (by decide) (by decide)
  have h40 := hV.1
  have s6 := (hV.2 t ht).1
  obtain ⟨e22, -, e24, -, -, e25, e26⟩ := hT.2 t ht
  have q0 : ol_sq ad I (ol_u2 I (ad 10) 11 0) := (ol_sq_rf ad I).up _ (Or.inl ⟨rfl, Or.inr rfl⟩)
  have hT0 := ol_MT.sq hL q0 hT
  have hq0 := (hV.2 t ht).2.2 0 (by decide)
  refine ol_aload_n C dX11_tellLinks_0 rfl rfl (by first | exact ol_isq_r _ | exact ol_isq_q _ | exact ol_isq_n) ?_
  refine ol_iconst (v := 0) C dX11_tellLinks_1 (by decide) ?_
  refine ol_pI (k := 11) C (by assumption) rfl rfl wd_591 (.inl rfl) rfl rfl dX11_tellLinks_2 ?_
  refine ol_aload_n C dX11_tellLinks_5 rfl rfl (by first | exact ol_isq_r _ | exact ol_isq_q _ | exact ol_isq_n) ?_
  refine ol_gR (k := 1) C (by assumption) rfl rfl wd_581 (.inl rfl) dX11_tellLinks_6 ?_
  refine ol_rf (by assumption) ?_
  refine ol_iload_n C dX11_tellLinks_9 rfl rfl ?_
  refine ol_lI t C (by assumption) rfl (by omega) (by decide) dX11_tellLinks_10 ?_
  rw [ol_u2_a _ _ n22_10]
  refine ol_ti e22 ?_
  refine ol_istore_n C dX11_tellLinks_11 rfl (by decide) ?_
  refine ol_iload_n C dX11_tellLinks_12 rfl rfl ?_
  refine ol_iconst (v := 5) C dX11_tellLinks_13 (by decide) ?_
  refine ol_icmp_ne (tgt := 62) C dX11_tellLinks_14 (by decide) (fun c_14 => ?_) (fun c_14 => ?_)
  · have s5 : ¬ So t = 5 := fun q => c_14 (by rw [q]; rfl)
    refine ol_iload_n C dX11_tellLinks_62 rfl rfl ?_
    refine ol_iconst (v := 1) C dX11_tellLinks_63 (by decide) ?_
    refine ol_icmp_eq (tgt := 72) C dX11_tellLinks_64 (by decide) (fun c_64 => ?_) (fun c_64 => ?_)
    · refine ol_iconst (v := 0) C dX11_tellLinks_72 (by decide) ?_
      refine ol_istore_n C dX11_tellLinks_73 rfl (by decide) ?_
      refine ol_iconst (v := 0) C dX11_tellLinks_74 (by decide) ?_
      refine ol_istore C dX11_tellLinks_75 (by decide) ?_
      have s14 : So t = 1 ∨ So t = 4 := Or.inl ((ol_nIk (k := 1) s6 (by decide)).mp c_64)
      refine lp_links C hL hT hV ht (by decide) (fun I1 why g1 g2 g3 => ?_) 6 0 _ 0 (by omega) q0 (fun i hi => absurd hi (by omega)) (by rw [ol_if_f (fun q => by obtain ⟨-, i, hi, -⟩ := q; omega)])
      refine ol_aload_n C dX11_tellLinks_134 rfl rfl (by first | exact ol_isq_r _ | exact ol_isq_q _ | exact ol_isq_n) ?_
      refine ol_bipush (v := 6) C dX11_tellLinks_135 (by decide) ?_
      refine ol_pI (k := 11) C (by assumption) rfl rfl wd_591 (.inl rfl) rfl rfl dX11_tellLinks_137 ?_
      refine ol_iload_n C dX11_tellLinks_140 rfl rfl ?_
      exact ol_iret C hret hlk rfl (by decide) (by decide) dX11_tellLinks_141 ⟨by rw [g3]; unfold sp_lc; rw [ol_if_f s5, ol_if_t s14], rfl, rfl, g1.up _ (Or.inl ⟨rfl, Or.inr rfl⟩), fun _ => ⟨by rw [ol_u2_s]; unfold sp_ln; rw [ol_if_f s5, ol_if_t s14]; rfl, fun i hi => by unfold sp_ln at hi; rw [ol_if_f s5, ol_if_t s14] at hi; rw [ol_u2_a _ _ n30_10, g2 i hi]; unfold sp_lk; rw [ol_if_f s5, ol_if_t s14]⟩⟩
    · have s1 : ¬ So t = 1 := fun q => c_64 (by rw [q]; rfl)
      refine ol_iload_n C dX11_tellLinks_67 rfl rfl ?_
      refine ol_iconst (v := 4) C dX11_tellLinks_68 (by decide) ?_
      refine ol_icmp_ne (tgt := 142) C dX11_tellLinks_69 (by decide) (fun c_69 => ?_) (fun c_69 => ?_)
      · have s4 : ¬ So t = 4 := fun q => c_69 (by rw [q]; rfl)
        have s14 : ¬ (So t = 1 ∨ So t = 4) := fun q => q.elim s1 s4
        refine ol_aload_n C dX11_tellLinks_142 rfl rfl (by first | exact ol_isq_r _ | exact ol_isq_q _ | exact ol_isq_n) ?_
        refine ol_gR (k := 4) C (by assumption) rfl rfl wd_584 (.inl rfl) dX11_tellLinks_143 ?_
        refine ol_rf (by assumption) ?_
        refine ol_iload_n C dX11_tellLinks_146 rfl rfl ?_
        refine ol_lI t C (by assumption) rfl (by omega) (by decide) dX11_tellLinks_147 ?_
        rw [ol_u2_a _ _ n25_10]
        refine ol_ti e25 ?_
        refine ol_ldc (v := (-1000009)) C wd_677 dX11_tellLinks_148 ?_
        refine ol_icmp_ne (tgt := 155) C dX11_tellLinks_150 (by decide) (fun c_150 => ?_) (fun c_150 => ?_)
        · have hz : ¬ P 0 t = none := by intro q; rw [q] at c_150; exact c_150 rfl
          refine ol_aload_n C dX11_tellLinks_155 rfl rfl (by first | exact ol_isq_r _ | exact ol_isq_q _ | exact ol_isq_n) ?_
          refine ol_gR (k := 10) C (by assumption) rfl rfl wd_590 (.inl rfl) dX11_tellLinks_156 ?_
          refine ol_rf (by assumption) ?_
          refine ol_iconst (v := 0) C dX11_tellLinks_159 (by decide) ?_
          refine ol_aload_n C dX11_tellLinks_160 rfl rfl (by first | exact ol_isq_r _ | exact ol_isq_q _ | exact ol_isq_n) ?_
          refine ol_gR (k := 4) C (by assumption) rfl rfl wd_584 (.inl rfl) dX11_tellLinks_161 ?_
          refine ol_rf (by assumption) ?_
          refine ol_iload_n C dX11_tellLinks_164 rfl rfl ?_
          refine ol_lI t C (by assumption) rfl (by omega) (by decide) dX11_tellLinks_165 ?_
          rw [ol_u2_a _ _ n25_10]
          refine ol_ti e25 ?_
          refine ol_sI 0 C (by assumption) rfl (by decide) (by decide) dX11_tellLinks_166 ?_
          refine ol_aload_n C dX11_tellLinks_167 rfl rfl (by first | exact ol_isq_r _ | exact ol_isq_q _ | exact ol_isq_n) ?_
          refine ol_iconst (v := 1) C dX11_tellLinks_168 (by decide) ?_
          refine ol_pI (k := 11) C (by assumption) rfl rfl wd_591 (.inl rfl) rfl rfl dX11_tellLinks_169 ?_
          refine ol_aload_n C dX11_tellLinks_172 rfl rfl (by first | exact ol_isq_r _ | exact ol_isq_q _ | exact ol_isq_n) ?_
          refine ol_aload_n C dX11_tellLinks_173 rfl rfl (by first | exact ol_isq_r _ | exact ol_isq_q _ | exact ol_isq_n) ?_
          refine ol_gR (k := 4) C (by assumption) rfl rfl wd_584 (.inl rfl) dX11_tellLinks_174 ?_
          refine ol_rf (by assumption) ?_
          refine ol_iload_n C dX11_tellLinks_177 rfl rfl ?_
          refine ol_lI t C (by assumption) rfl (by omega) (by decide) dX11_tellLinks_178 ?_
          rw [ol_u2_a _ _ n25_10, ol_u2_a _ _ n25_30, ol_u2_a _ _ n25_10]
          refine ol_ti e25 ?_
          refine ol_callV C (mm_isB l D cA hL (ol_MT.sq hL ((q0.up _ (Or.inr (Or.inr rfl))).up _ (Or.inl ⟨rfl, Or.inr rfl⟩)) hT) hV hq0) hm.1 hm.2 rfl wd_711 wd_4 wd_708 wd_710 wq_13 mh_X11_isBridge (by decide) rfl (by first | exact Nat.le_of_ble_eq_true rfl | simp [ol_rfc, Value.category]) dX11_tellLinks_179 (ol_xi ?_)
          refine ol_if_eq (tgt := 189) C dX11_tellLinks_182 (by decide) (fun c_182 => ?_) (fun c_182 => ?_)
          · refine ol_iconst (v := 0) C dX11_tellLinks_189 (by decide) ?_
            exact ol_iret C hret hlk rfl (by decide) (by decide) dX11_tellLinks_190 ⟨by unfold sp_lc; rw [ol_if_f s5, ol_if_f s14, ol_if_f (ol_p_0.mp c_182)], rfl, rfl, (q0.up _ (Or.inr (Or.inr rfl))).up _ (Or.inl ⟨rfl, Or.inr rfl⟩), fun _ => ⟨by rw [ol_u2_s]; unfold sp_ln; rw [ol_if_f s5, ol_if_f s14, ol_if_f hz]; rfl, fun i hi => by unfold sp_ln at hi; rw [ol_if_f s5, ol_if_f s14, ol_if_f hz] at hi; have hi0 : i = 0 := (by omega); subst hi0; rw [ol_u2_a _ _ n30_10, ol_u2_s]; unfold sp_lk; rw [ol_if_f s5, ol_if_f s14]⟩⟩
          · refine ol_iconst (v := 3) C dX11_tellLinks_185 (by decide) ?_
            refine ol_goto (tgt := 190) C dX11_tellLinks_186 (by decide) ?_
            exact ol_iret C hret hlk rfl (by decide) (by decide) dX11_tellLinks_190 ⟨by unfold sp_lc; rw [ol_if_f s5, ol_if_f s14, ol_if_t (ol_p_n.mp c_182)], rfl, rfl, (q0.up _ (Or.inr (Or.inr rfl))).up _ (Or.inl ⟨rfl, Or.inr rfl⟩), fun _ => ⟨by rw [ol_u2_s]; unfold sp_ln; rw [ol_if_f s5, ol_if_f s14, ol_if_f hz]; rfl, fun i hi => by unfold sp_ln at hi; rw [ol_if_f s5, ol_if_f s14, ol_if_f hz] at hi; have hi0 : i = 0 := (by omega); subst hi0; rw [ol_u2_a _ _ n30_10, ol_u2_s]; unfold sp_lk; rw [ol_if_f s5, ol_if_f s14]⟩⟩
        · have hz := ol_e_n (fun u hu => by have := hq0 u hu; omega) c_150
          refine ol_iconst (v := 0) C dX11_tellLinks_153 (by decide) ?_
          exact ol_iret C hret hlk rfl (by decide) (by decide) dX11_tellLinks_154 ⟨by unfold sp_lc; rw [ol_if_f s5, ol_if_f s14, ol_if_f (fun ⟨u, e1, _⟩ => absurd (hz.symm.trans e1) (by simp))], rfl, rfl, q0, fun _ => ⟨by rw [ol_u2_s]; unfold sp_ln; rw [ol_if_f s5, ol_if_f s14, ol_if_t hz]; rfl, fun i hi => by unfold sp_ln at hi; rw [ol_if_f s5, ol_if_f s14, ol_if_t hz] at hi; exact absurd hi (by omega)⟩⟩
      · refine ol_iconst (v := 0) C dX11_tellLinks_72 (by decide) ?_
        refine ol_istore_n C dX11_tellLinks_73 rfl (by decide) ?_
        refine ol_iconst (v := 0) C dX11_tellLinks_74 (by decide) ?_
        refine ol_istore C dX11_tellLinks_75 (by decide) ?_
        have s14 : So t = 1 ∨ So t = 4 := Or.inr ((ol_nIk (k := 4) s6 (by decide)).mp c_69)
        refine lp_links C hL hT hV ht (by decide) (fun I1 why g1 g2 g3 => ?_) 6 0 _ 0 (by omega) q0 (fun i hi => absurd hi (by omega)) (by rw [ol_if_f (fun q => by obtain ⟨-, i, hi, -⟩ := q; omega)])
        refine ol_aload_n C dX11_tellLinks_134 rfl rfl (by first | exact ol_isq_r _ | exact ol_isq_q _ | exact ol_isq_n) ?_
        refine ol_bipush (v := 6) C dX11_tellLinks_135 (by decide) ?_
        refine ol_pI (k := 11) C (by assumption) rfl rfl wd_591 (.inl rfl) rfl rfl dX11_tellLinks_137 ?_
        refine ol_iload_n C dX11_tellLinks_140 rfl rfl ?_
        exact ol_iret C hret hlk rfl (by decide) (by decide) dX11_tellLinks_141 ⟨by rw [g3]; unfold sp_lc; rw [ol_if_f s5, ol_if_t s14], rfl, rfl, g1.up _ (Or.inl ⟨rfl, Or.inr rfl⟩), fun _ => ⟨by rw [ol_u2_s]; unfold sp_ln; rw [ol_if_f s5, ol_if_t s14]; rfl, fun i hi => by unfold sp_ln at hi; rw [ol_if_f s5, ol_if_t s14] at hi; rw [ol_u2_a _ _ n30_10, g2 i hi]; unfold sp_lk; rw [ol_if_f s5, ol_if_t s14]⟩⟩
  · have s5 : So t = 5 := (ol_nIk (k := 5) s6 (by decide)).mp c_14
    refine ol_aload_n C dX11_tellLinks_17 rfl rfl (by first | exact ol_isq_r _ | exact ol_isq_q _ | exact ol_isq_n) ?_
    refine ol_gR (k := 3) C (by assumption) rfl rfl wd_583 (.inl rfl) dX11_tellLinks_18 ?_
    refine ol_rf (by assumption) ?_
    refine ol_iload_n C dX11_tellLinks_21 rfl rfl ?_
    refine ol_lI t C (by assumption) rfl (by omega) (by decide) dX11_tellLinks_22 ?_
    rw [ol_u2_a _ _ n24_10]
    refine ol_ti e24 ?_
    refine ol_iconst (v := 0) C dX11_tellLinks_23 (by decide) ?_
    refine ol_iconst (v := 5) C dX11_tellLinks_24 (by decide) ?_
    refine ol_callS C (mm_in l D cA (T 2 t) 0 5) wd_674 wd_4 wd_672 wd_673 mh_X11_in (by decide) rfl (by first | exact Nat.le_of_ble_eq_true rfl | simp [ol_rfc, Value.category]) dX11_tellLinks_25 (ol_xi ?_)
    refine ol_if_ne (tgt := 33) C dX11_tellLinks_28 (by decide) (fun c_28 => ?_) (fun c_28 => ?_)
    · have hI := (ol_k_5).mp (ol_p_n.mp c_28)
      obtain ⟨v, hv, ev, hv31⟩ := ol_k_ix hI (by omega)
      refine ol_aload_n C dX11_tellLinks_33 rfl rfl (by first | exact ol_isq_r _ | exact ol_isq_q _ | exact ol_isq_n) ?_
      refine ol_gR (k := 10) C (by assumption) rfl rfl wd_590 (.inl rfl) dX11_tellLinks_34 ?_
      refine ol_rf (by assumption) ?_
      refine ol_iconst (v := 0) C dX11_tellLinks_37 (by decide) ?_
      refine ol_aload_n C dX11_tellLinks_38 rfl rfl (by first | exact ol_isq_r _ | exact ol_isq_q _ | exact ol_isq_n) ?_
      refine ol_gR (k := 5) C (by assumption) rfl rfl wd_585 (.inl rfl) dX11_tellLinks_39 ?_
      refine ol_rf (by assumption) ?_
      refine ol_bipush (v := 6) C dX11_tellLinks_42 (by decide) ?_
      refine ol_iload_n C dX11_tellLinks_44 rfl rfl ?_
      refine ol_imul C dX11_tellLinks_45 ?_
      refine ol_aload_n C dX11_tellLinks_46 rfl rfl (by first | exact ol_isq_r _ | exact ol_isq_q _ | exact ol_isq_n) ?_
      refine ol_gR (k := 3) C (by assumption) rfl rfl wd_583 (.inl rfl) dX11_tellLinks_47 ?_
      refine ol_rf (by assumption) ?_
      refine ol_iload_n C dX11_tellLinks_50 rfl rfl ?_
      refine ol_lI t C (by assumption) rfl (by omega) (by decide) dX11_tellLinks_51 ?_
      rw [ol_u2_a _ _ n24_10]
      refine ol_ti (e24.trans ev) ?_
      refine ol_iadd C dX11_tellLinks_52 ?_
      refine ol_lI (6 * t + v) C (by assumption) (ol_ma rfl) (by omega) (by decide) dX11_tellLinks_53 ?_
      rw [ol_u2_a _ _ n26_10]
      refine ol_ti (e26 v hv) ?_
      refine ol_sI 0 C (by assumption) rfl (by decide) (by decide) dX11_tellLinks_54 ?_
      refine ol_aload_n C dX11_tellLinks_55 rfl rfl (by first | exact ol_isq_r _ | exact ol_isq_q _ | exact ol_isq_n) ?_
      refine ol_iconst (v := 1) C dX11_tellLinks_56 (by decide) ?_
      refine ol_pI (k := 11) C (by assumption) rfl rfl wd_591 (.inl rfl) rfl rfl dX11_tellLinks_57 ?_
      refine ol_iconst (v := 0) C dX11_tellLinks_60 (by decide) ?_
      exact ol_iret C hret hlk rfl (by decide) (by decide) dX11_tellLinks_61 ⟨by unfold sp_lc; rw [ol_if_t s5, ol_if_t hI], rfl, rfl, (q0.up _ (Or.inr (Or.inr rfl))).up _ (Or.inl ⟨rfl, Or.inr rfl⟩), fun _ => ⟨by rw [ol_u2_s]; unfold sp_ln; rw [ol_if_t s5]; rfl, fun i hi => by unfold sp_ln at hi; rw [ol_if_t s5] at hi; have hi0 : i = 0 := (by omega); subst hi0; rw [ol_u2_a _ _ n30_10, ol_u2_s]; unfold sp_lk; rw [ol_if_t s5, ev, nI_clamp hv31]⟩⟩
    · have hI : ¬ ol_k 6 (T 2 t) := fun q => ol_p_0.mp c_28 (ol_k_5.mpr q)
      refine ol_iconst (v := 2) C dX11_tellLinks_31 (by decide) ?_
      exact ol_iret C hret hlk rfl (by decide) (by decide) dX11_tellLinks_32 ⟨by unfold sp_lc; rw [ol_if_t s5, ol_if_f hI], rfl, rfl, q0, fun z => absurd z (by unfold sp_lc; rw [ol_if_t s5, ol_if_f hI]; decide)⟩
