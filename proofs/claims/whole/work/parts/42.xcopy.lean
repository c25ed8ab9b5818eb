set_option maxRecDepth 100000 in
set_option maxHeartbeats 4000000 in
theorem lp_cpA {p : Program} {l : Launch} {e : Env} {R : Room} {s : State} {m : MethodId} {args : Array Value} {below : List Frame} {meth : Method} {c : Code} {D : va_G} {cA : Nat → ClassId} {A : Nat → Prop} {Q : State → Prop} {ro : Nat → Nat} {F : Nat → Nat → Option Nat} {cells slots : Nat} (C : ol_Cx p s m args c cX10_copyStretch 6 yX10_copyStretch.cls D cA A) {I : Nat → Nat → Int32} {F0 : Nat → Nat → Option Nat} {sp tp ka kb kn : Nat} (hs : ol_is ro sp (.inr (2, 6))) (ht : ol_is ro tp (.inr (2, 6))) (hth : ∀ i, i < 6 → ∀ b, F0 sp i = some b → ol_th ro b) (hka : ka + kn ≤ 6) (hkb : kb + kn ≤ 6) (hab : kb ≤ ka) (ex : ∀ (F1 : Nat → Nat → Option Nat) (lv : List (Option Value)), (∀ c2, c2 ≠ tp → F1 c2 = F0 c2) → (∀ i, i < kn → F1 tp (kb + i) = F0 sp (ka + i)) → (∀ j, (∀ i, i < kn → j ≠ kb + i) → F1 tp j = F0 tp j) → ol_W p l e R s m args below meth c D cA A Q 6 ro I F1 cells slots 65 lv []) : ∀ (d k : Nat) (F1 : Nat → Nat → Option Nat), k + d = kn → (∀ c2, c2 ≠ tp → F1 c2 = F0 c2) → (∀ i, i < k → F1 tp (kb + i) = F0 sp (ka + i)) → (∀ j, (∀ i, i < k → j ≠ kb + i) → F1 tp j = F0 tp j) → ol_W p l e R s m args below meth c D cA A Q 6 ro I F1 cells slots 8 [some (.ref sp), some (.int (nI ka)), some (.ref tp), some (.int (nI kb)), some (.int (nI kn)), some (.int (nI k))] [] := by
  intro d
  induction d with
  | zero =>
    intro k F1 hk h1 h2 h3
    have hk6 : k = kn := by omega
    subst hk6
    refine ol_iload C dX10_copyStretch_8 rfl ?_
    refine ol_iload C dX10_copyStretch_10 rfl ?_
    refine ol_icmp_ge (tgt := 33) C dX10_copyStretch_12 (by decide) (fun c_12 => ?_) (fun c_12 => absurd (Int32.le_refl (nI k)) c_12)
    refine ol_goto (tgt := 65) C dX10_copyStretch_33 (by decide) ?_
    exact ex F1 _ h1 h2 h3
  | succ d ih =>
    intro k F1 hk h1 h2 h3
    have hk6 : k < kn := by omega
    have hrd : F1 sp (ka + k) = F0 sp (ka + k) := by
      by_cases e : sp = tp
      · subst e
        exact h3 _ (fun i hi => by omega)
      · exact congrFun (h1 sp e) _
    refine ol_iload C dX10_copyStretch_8 rfl ?_
    refine ol_iload C dX10_copyStretch_10 rfl ?_
    refine ol_icmp_ge (tgt := 33) C dX10_copyStretch_12 (by decide) (fun c_12 => absurd c_12 (nI_ge hk6 (by omega))) (fun c_12 => ?_)
    refine ol_aload_n C dX10_copyStretch_15 rfl rfl (by first | exact ol_isq_r _ | exact ol_isq_q _ | exact ol_isq_n) ?_
    refine ol_iload_n C dX10_copyStretch_16 rfl rfl ?_
    refine ol_iload C dX10_copyStretch_17 rfl ?_
    refine ol_iadd C dX10_copyStretch_19 ?_
    refine ol_aload_n C dX10_copyStretch_20 rfl rfl (by first | exact ol_isq_r _ | exact ol_isq_q _ | exact ol_isq_n) ?_
    refine ol_iload_n C dX10_copyStretch_21 rfl rfl ?_
    refine ol_iload C dX10_copyStretch_22 rfl ?_
    refine ol_iadd C dX10_copyStretch_24 ?_
    refine ol_lT (ka + k) C hs (nI_add _ _) (by omega) (by decide) dX10_copyStretch_25 ?_
    refine ol_sT (kb + k) C rfl ht (nI_add _ _) (by omega) (by decide) (fun b hb => hth (ka + k) (by omega) b (hrd ▸ hb)) dX10_copyStretch_26 ?_
    refine ol_iincN C dX10_copyStretch_27 rfl (by decide) ?_
    refine ol_goto (tgt := 8) C dX10_copyStretch_30 (by decide) ?_
    refine ih (k + 1) _ (by omega) (fun c2 hc => (ol_u2_a F1 _ hc).trans (h1 c2 hc)) (fun i hi => ?_) (fun j hj => ?_)
    · by_cases e : i = k
      · subst e
        rw [ol_u2_s]
        exact hrd
      · rw [ol_u2_k F1 _ (by omega)]
        exact h2 i (by omega)
    · rw [ol_u2_k F1 _ (hj k (by omega))]
      exact h3 j (fun i hi => hj i (by omega))

theorem ol_pm1 (x : Int32) : x + Int32.ofInt (-1) = x - 1 := by
  rw [Int32.sub_eq_add_neg]
  rfl

set_option maxRecDepth 100000 in
set_option maxHeartbeats 4000000 in
theorem lp_cpD {p : Program} {l : Launch} {e : Env} {R : Room} {s : State} {m : MethodId} {args : Array Value} {below : List Frame} {meth : Method} {c : Code} {D : va_G} {cA : Nat → ClassId} {A : Nat → Prop} {Q : State → Prop} {ro : Nat → Nat} {F : Nat → Nat → Option Nat} {cells slots : Nat} (C : ol_Cx p s m args c cX10_copyStretch 6 yX10_copyStretch.cls D cA A) {I : Nat → Nat → Int32} {F0 : Nat → Nat → Option Nat} {sp tp ka kb kn : Nat} (hs : ol_is ro sp (.inr (2, 6))) (ht : ol_is ro tp (.inr (2, 6))) (hth : ∀ i, i < 6 → ∀ b, F0 sp i = some b → ol_th ro b) (hka : ka + kn ≤ 6) (hkb : kb + kn ≤ 6) (hab : ka < kb) (ex : ∀ (F1 : Nat → Nat → Option Nat) (lv : List (Option Value)), (∀ c2, c2 ≠ tp → F1 c2 = F0 c2) → (∀ i, i < kn → F1 tp (kb + i) = F0 sp (ka + i)) → (∀ j, (∀ i, i < kn → j ≠ kb + i) → F1 tp j = F0 tp j) → ol_W p l e R s m args below meth c D cA A Q 6 ro I F1 cells slots 65 lv []) : ∀ (d : Nat) (F1 : Nat → Nat → Option Nat) (w : Int32), d ≤ kn → w = nI d - 1 → (∀ c2, c2 ≠ tp → F1 c2 = F0 c2) → (∀ i, i < kn → d ≤ i → F1 tp (kb + i) = F0 sp (ka + i)) → (∀ j, (∀ i, i < kn → d ≤ i → j ≠ kb + i) → F1 tp j = F0 tp j) → ol_W p l e R s m args below meth c D cA A Q 6 ro I F1 cells slots 42 [some (.ref sp), some (.int (nI ka)), some (.ref tp), some (.int (nI kb)), some (.int (nI kn)), some (.int w)] [] := by
  intro d
  induction d with
  | zero =>
    intro F1 w hd hw h1 h2 h3
    subst hw
    refine ol_iload C dX10_copyStretch_42 rfl ?_
    refine ol_if_lt (tgt := 65) C dX10_copyStretch_44 (by decide) (fun c_44 => ?_) (fun c_44 => absurd (show nI 0 - 1 < 0 by decide) c_44)
    exact ex F1 _ h1 (fun i hi => h2 i hi (Nat.zero_le _)) (fun j hj => h3 j (fun i hi _ => hj i hi))
  | succ d ih =>
    intro F1 w hd hw h1 h2 h3
    rw [nI_pred] at hw
    subst hw
    have hrd : F1 sp (ka + d) = F0 sp (ka + d) := by
      by_cases e : sp = tp
      · subst e
        exact h3 _ (fun i hi => by omega)
      · exact congrFun (h1 sp e) _
    refine ol_iload C dX10_copyStretch_42 rfl ?_
    refine ol_if_lt (tgt := 65) C dX10_copyStretch_44 (by decide) (fun c_44 => absurd c_44 (nI_pos (by omega))) (fun c_44 => ?_)
    refine ol_aload_n C dX10_copyStretch_47 rfl rfl (by first | exact ol_isq_r _ | exact ol_isq_q _ | exact ol_isq_n) ?_
    refine ol_iload_n C dX10_copyStretch_48 rfl rfl ?_
    refine ol_iload C dX10_copyStretch_49 rfl ?_
    refine ol_iadd C dX10_copyStretch_51 ?_
    refine ol_aload_n C dX10_copyStretch_52 rfl rfl (by first | exact ol_isq_r _ | exact ol_isq_q _ | exact ol_isq_n) ?_
    refine ol_iload_n C dX10_copyStretch_53 rfl rfl ?_
    refine ol_iload C dX10_copyStretch_54 rfl ?_
    refine ol_iadd C dX10_copyStretch_56 ?_
    refine ol_lT (ka + d) C hs (nI_add _ _) (by omega) (by decide) dX10_copyStretch_57 ?_
    refine ol_sT (kb + d) C rfl ht (nI_add _ _) (by omega) (by decide) (fun b hb => hth (ka + d) (by omega) b (hrd ▸ hb)) dX10_copyStretch_58 ?_
    refine ol_iinc C dX10_copyStretch_59 rfl rfl (by decide) ?_
    refine ol_goto (tgt := 42) C dX10_copyStretch_62 (by decide) ?_
    refine ih _ _ (by omega) (ol_pm1 _) (fun c2 hc => (ol_u2_a F1 _ hc).trans (h1 c2 hc)) (fun i hi hi2 => ?_) (fun j hj => ?_)
    · by_cases e : i = d
      · subst e
        rw [ol_u2_s]
        exact hrd
      · rw [ol_u2_k F1 _ (by omega)]
        exact h2 i hi (by omega)
    · rw [ol_u2_k F1 _ (hj d (by omega) (Nat.le_refl _))]
      exact h3 j (fun i hi hi2 => hj i hi (by omega))

set_option maxRecDepth 100000 in
set_option maxHeartbeats 4000000 in
theorem m_cps (l : Launch) (D : va_G) (cA : Nat → ClassId) {ro : Nat → Nat} {I : Nat → Nat → Int32} {F : Nat → Nat → Option Nat} {sp tp ka kb kn : Nat} (hs : ol_is ro sp (.inr (2, 6))) (ht : ol_is ro tp (.inr (2, 6))) (hth : ∀ i, i < 6 → ∀ b, F sp i = some b → ol_th ro b) (hka : ka + kn ≤ 6) (hkb : kb + kn ≤ 6) : ol_M l D cA yX10_copyStretch cX10_copyStretch 6 none (ol_r 0 0 0) [.ref sp, .int (nI ka), .ref tp, .int (nI kb), .int (nI kn)] ro I F (fun v ro' I' F' => v = none ∧ ro' = ro ∧ I' = I ∧ (∀ c2, c2 ≠ tp → F' c2 = F c2) ∧ (∀ i, i < kn → F' tp (kb + i) = F sp (ka + i)) ∧ ∀ j, (∀ i, i < kn → j ≠ kb + i) → F' tp j = F tp j) := by
  refine ol_M.of (by decide +kernel) (Nat.le_of_ble_eq_true rfl) (by simp [Value.category, ol_rfc]) ?_
  intro p e s m args below meth c C hret hlk hin
  refine ol_iload_n C dX10_copyStretch_0 rfl rfl ?_
  refine ol_iload_n C dX10_copyStretch_1 rfl rfl ?_
  refine ol_icmp_lt (tgt := 36) C dX10_copyStretch_2 (by decide) (fun c_2 => ?_) (fun c_2 => ?_)
  · have hab : ka < kb := (nI_ltI (by omega) (by omega)).mp c_2
    refine ol_iload C dX10_copyStretch_36 rfl ?_
    refine ol_iconst (v := 1) C dX10_copyStretch_38 (by decide) ?_
    refine ol_isub C dX10_copyStretch_39 ?_
    refine ol_istore C dX10_copyStretch_40 (by decide) ?_
    refine lp_cpD (F := F) C hs ht hth hka hkb hab (fun F1 lv g1 g2 g3 => ?_) kn F _ (Nat.le_refl _) rfl (fun _ _ => rfl) (fun i hi hi2 => absurd hi2 (by omega)) (fun _ _ => rfl)
    exact ol_vret C hret hlk (by decide) (by decide) dX10_copyStretch_65 ⟨rfl, rfl, rfl, g1, g2, g3⟩
  · have hab : kb ≤ ka := Nat.le_of_not_lt (fun q => c_2 ((nI_ltI (by omega) (by omega)).mpr q))
    refine ol_iconst (v := 0) C dX10_copyStretch_5 (by decide) ?_
    refine ol_istore C dX10_copyStretch_6 (by decide) ?_
    refine lp_cpA (F := F) C hs ht hth hka hkb hab (fun F1 lv g1 g2 g3 => ?_) kn 0 F (by omega) (fun _ _ => rfl) (fun i hi => absurd hi (by omega)) (fun _ _ => rfl)
    exact ol_vret C hret hlk (by decide) (by decide) dX10_copyStretch_65 ⟨rfl, rfl, rfl, g1, g2, g3⟩
