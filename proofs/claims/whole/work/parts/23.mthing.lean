set_option maxRecDepth 100000 in
set_option maxHeartbeats 4000000 in
theorem lp_thing {p : Program} {l : Launch} {e : Env} {R : Room} {s : State} {m : MethodId} {args : Array Value} {below : List Frame} {meth : Method} {c : Code} {D : va_G} {cA : Nat → ClassId} {A : Nat → Prop} {Q : State → Prop} {ro : Nat → Nat} {F : Nat → Nat → Option Nat} {cells slots : Nat} (C : ol_Cx p s m args c cX11_thing 6 yX11_thing.cls D cA A) {ad : Nat → Nat} (hL : ol_L ro F ad) {I0 : Nat → Nat → Int32} {t : Nat} (ht : t < 40) {a1 a2 a3 : Int32} (ex : ∀ I : Nat → Nat → Int32, (∀ a, a ≠ ad 26 → I a = I0 a) → (∀ j, j < 6 → I (ad 26) (6 * t + j) = -1000009) → (∀ j, j < 6 * t ∨ 6 * t + 6 ≤ j → I (ad 26) j = I0 (ad 26) j) → ol_W p l e R s m args below meth c D cA A Q 6 ro I F cells slots 95 [some (.ref (ad 10)), some (.int a1), some (.int a2), some (.int a3), some (.int (nI t)), some (.int (nI 6))] []) : ∀ (d k : Nat) (I : Nat → Nat → Int32), k + d = 6 → (∀ a, a ≠ ad 26 → I a = I0 a) → (∀ j, j < k → I (ad 26) (6 * t + j) = -1000009) → (∀ j, j < 6 * t ∨ 6 * t + 6 ≤ j → I (ad 26) j = I0 (ad 26) j) → ol_W p l e R s m args below meth c D cA A Q 6 ro I F cells slots 67 [some (.ref (ad 10)), some (.int a1), some (.int a2), some (.int a3), some (.int (nI t)), some (.int (nI k))] [] := by
  have hm : ol_is ro (ad 10) (.inl 9) := hL.is 10 (by decide) (by decide) rfl
  have f_places : F (ad 10) 5 = some (ad 26) := hL.mf 5 26 (by decide)
  have i_places : ol_is ro (ad 26) (.inr (0, 240)) := hL.is 26 (by decide) (by decide) rfl
  intro d
  induction d with
  | zero =>
    intro k I hk h1 h2 h3
    have hk6 : k = 6 := by omega
    subst hk6
    refine ol_iload C dX11_thing_67 rfl ?_
    refine ol_bipush (v := 6) C dX11_thing_69 (by decide) ?_
    refine ol_icmp_ge (tgt := 95) C dX11_thing_71 (by decide) (fun c_71 => ?_) (fun c_71 => absurd (show (6 : Int32) ≤ nI 6 by decide) c_71)
    exact ex I h1 h2 h3
  | succ d ih =>
    intro k I hk h1 h2 h3
    have hk6 : k < 6 := by omega
    refine ol_iload C dX11_thing_67 rfl ?_
    refine ol_bipush (v := 6) C dX11_thing_69 (by decide) ?_
    refine ol_icmp_ge (tgt := 95) C dX11_thing_71 (by decide) (fun c_71 => absurd c_71 (nI_ge (b := 6) hk6 (by decide))) (fun c_71 => ?_)
    refine ol_aload_n C dX11_thing_74 rfl rfl (by first | exact ol_isq_r _ | exact ol_isq_q _ | exact ol_isq_n) ?_
    refine ol_gR (k := 5) C (by assumption) rfl rfl wd_585 (.inl rfl) dX11_thing_75 ?_
    refine ol_rf (by assumption) ?_
    refine ol_bipush (v := 6) C dX11_thing_78 (by decide) ?_
    refine ol_iload C dX11_thing_80 rfl ?_
    refine ol_imul C dX11_thing_82 ?_
    refine ol_iload C dX11_thing_83 rfl ?_
    refine ol_iadd C dX11_thing_85 ?_
    refine ol_ldc (v := (-1000009)) C wd_677 dX11_thing_86 ?_
    refine ol_sI (6 * t + k) C (by assumption) (ol_ma rfl) (by omega) (by decide) dX11_thing_88 ?_
    refine ol_iincN C dX11_thing_89 rfl (by decide) ?_
    refine ol_goto (tgt := 67) C dX11_thing_92 (by decide) ?_
    refine ih (k + 1) _ (by omega) (fun a ha => (ol_u2_a I _ ha).trans (h1 a ha)) (fun j hj => ?_) (fun j hj => ?_)
    · by_cases e : j = k
      · subst e
        exact ol_u2_s _ _ _ _
      · rw [ol_u2_k I _ (by omega)]
        exact h2 j (by omega)
    · rw [ol_u2_k I _ (by omega)]
      exact h3 j hj

set_option maxRecDepth 100000 in
set_option maxHeartbeats 4000000 in
theorem mm_thing (l : Launch) (D : va_G) (cA : Nat → ClassId) {ro : Nat → Nat} {I : Nat → Nat → Int32} {F : Nat → Nat → Option Nat} {ad : Nat → Nat} (hL : ol_L ro F ad) {n : Nat} (hn : I (ad 10) 0 = nI n) (h40 : n ≤ 40) (a1 a2 a3 : Int32) : ol_M l D cA yX11_thing cX11_thing 6 (some FieldType.int) (ol_r 1 0 0) [.ref (ad 10), .int a1, .int a2, .int a3] ro I F (fun v ro' I' F' => ro' = ro ∧ F' = F ∧ ((¬ ol_k 7 a1 ∧ v = some (.int (-1000002)) ∧ I' = I) ∨ (ol_k 7 a1 ∧ n = 40 ∧ v = some (.int (-1000004)) ∧ I' = I) ∨ (ol_k 7 a1 ∧ n < 40 ∧ v = some (.int (nI n)) ∧ ol_mth I I' ad n a1 a2 a3))) := by
  refine ol_M.of (by decide +kernel) (Nat.le_of_ble_eq_true rfl) (by simp [Value.category, ol_rfc]) ?_
  intro p e s m args below meth c C hret hlk hin
  have hm : ol_is ro (ad 10) (.inl 9) := hL.is 10 (by decide) (by decide) rfl
  have f_sorts : F (ad 10) 1 = some (ad 22) := hL.mf 1 22 (by decide)
  have i_sorts : ol_is ro (ad 22) (.inr (0, 40)) := hL.is 22 (by decide) (by decide) rfl
  have f_keys : F (ad 10) 2 = some (ad 23) := hL.mf 2 23 (by decide)
  have i_keys : ol_is ro (ad 23) (.inr (0, 40)) := hL.is 23 (by decide) (by decide) rfl
  have f_vs : F (ad 10) 3 = some (ad 24) := hL.mf 3 24 (by decide)
  have i_vs : ol_is ro (ad 24) (.inr (0, 40)) := hL.is 24 (by decide) (by decide) rfl
  have f_nexts : F (ad 10) 4 = some (ad 25) := hL.mf 4 25 (by decide)
  have i_nexts : ol_is ro (ad 25) (.inr (0, 40)) := hL.is 25 (by decide) (by decide) rfl
  have f_places : F (ad 10) 5 = some (ad 26) := hL.mf 5 26 (by decide)
  have i_places : ol_is ro (ad 26) (.inr (0, 240)) := hL.is 26 (by decide) (by decide) rfl
  have f_isHeld : F (ad 10) 6 = some (ad 27) := hL.mf 6 27 (by decide)
  have i_isHeld : ol_is ro (ad 27) (.inr (1, 40)) := hL.is 27 (by decide) (by decide) rfl
  have f_askedOf : F (ad 10) 7 = some (ad 28) := hL.mf 7 28 (by decide)
  have i_askedOf : ol_is ro (ad 28) (.inr (0, 40)) := hL.is 28 (by decide) (by decide) rfl
  have n10_22 : ad 10 ≠ ad 22 := hL.ne (by decide) (by decide) (by decide)
  have n10_23 : ad 10 ≠ ad 23 := hL.ne (by decide) (by decide) (by decide)
  have n10_24 : ad 10 ≠ ad 24 := hL.ne (by decide) (by decide) (by decide)
  have n10_25 : ad 10 ≠ ad 25 := hL.ne (by decide) (by decide) (by decide)
  have n10_26 : ad 10 ≠ ad 26 := hL.ne (by decide) (by decide) (by decide)
  have n10_27 : ad 10 ≠ ad 27 := hL.ne (by decide) (by decide) (by decide)
  have n10_28 : ad 10 ≠ ad 28 := hL.ne (by decide) (by decide) (by decide)
  refine ol_iload_n C dX11_thing_0 rfl rfl ?_
  refine ol_iconst (v := 0) C dX11_thing_1 (by decide) ?_
  refine ol_bipush (v := 6) C dX11_thing_2 (by decide) ?_
  refine ol_callS C (mm_in l D cA a1 0 6) wd_674 wd_4 wd_672 wd_673 mh_X11_in (by decide) rfl (by first | exact Nat.le_of_ble_eq_true rfl | simp [ol_rfc, Value.category]) dX11_thing_4 (ol_xi ?_)
  refine ol_if_ne (tgt := 13) C dX11_thing_7 (by decide) (fun c_7 => ?_) (fun c_7 => ?_)
  · have hK := (ol_k_6).mp (ol_p_n.mp c_7)
    refine ol_aload_n C dX11_thing_13 rfl rfl (by first | exact ol_isq_r _ | exact ol_isq_q _ | exact ol_isq_n) ?_
    refine ol_gI (k := 0) C (by assumption) rfl rfl wd_580 (.inl rfl) dX11_thing_14 ?_
    refine ol_bipush (v := 40) C dX11_thing_17 (by decide) ?_
    refine ol_icmp_ne (tgt := 25) C dX11_thing_19 (by decide) (fun c_19 => ?_) (fun c_19 => ?_)
    · have hq : n < 40 := Nat.lt_of_le_of_ne h40 (fun q => c_19 (by rw [hn, q]; rfl))
      refine ol_aload_n C dX11_thing_25 rfl rfl (by first | exact ol_isq_r _ | exact ol_isq_q _ | exact ol_isq_n) ?_
      refine ol_gI (k := 0) C (by assumption) rfl rfl wd_580 (.inl rfl) dX11_thing_26 ?_
      refine ol_ti hn ?_
      refine ol_istore C dX11_thing_29 (by decide) ?_
      refine ol_aload_n C dX11_thing_31 rfl rfl (by first | exact ol_isq_r _ | exact ol_isq_q _ | exact ol_isq_n) ?_
      refine ol_gR (k := 1) C (by assumption) rfl rfl wd_581 (.inl rfl) dX11_thing_32 ?_
      refine ol_rf (by assumption) ?_
      refine ol_iload C dX11_thing_35 rfl ?_
      refine ol_iload_n C dX11_thing_37 rfl rfl ?_
      refine ol_sI n C (by assumption) rfl hq (by decide) dX11_thing_38 ?_
      refine ol_aload_n C dX11_thing_39 rfl rfl (by first | exact ol_isq_r _ | exact ol_isq_q _ | exact ol_isq_n) ?_
      refine ol_gR (k := 2) C (by assumption) rfl rfl wd_582 (.inl rfl) dX11_thing_40 ?_
      refine ol_rf (by assumption) ?_
      refine ol_iload C dX11_thing_43 rfl ?_
      refine ol_iload_n C dX11_thing_45 rfl rfl ?_
      refine ol_sI n C (by assumption) rfl hq (by decide) dX11_thing_46 ?_
      refine ol_aload_n C dX11_thing_47 rfl rfl (by first | exact ol_isq_r _ | exact ol_isq_q _ | exact ol_isq_n) ?_
      refine ol_gR (k := 3) C (by assumption) rfl rfl wd_583 (.inl rfl) dX11_thing_48 ?_
      refine ol_rf (by assumption) ?_
      refine ol_iload C dX11_thing_51 rfl ?_
      refine ol_iload_n C dX11_thing_53 rfl rfl ?_
      refine ol_sI n C (by assumption) rfl hq (by decide) dX11_thing_54 ?_
      refine ol_aload_n C dX11_thing_55 rfl rfl (by first | exact ol_isq_r _ | exact ol_isq_q _ | exact ol_isq_n) ?_
      refine ol_gR (k := 4) C (by assumption) rfl rfl wd_584 (.inl rfl) dX11_thing_56 ?_
      refine ol_rf (by assumption) ?_
      refine ol_iload C dX11_thing_59 rfl ?_
      refine ol_ldc (v := (-1000009)) C wd_677 dX11_thing_61 ?_
      refine ol_sI n C (by assumption) rfl hq (by decide) dX11_thing_63 ?_
      refine ol_iconst (v := 0) C dX11_thing_64 (by decide) ?_
      refine ol_istore C dX11_thing_65 (by decide) ?_
      refine lp_thing C hL hq (fun I1 g1 g2 g3 => ?_) 6 0 _ (by omega) (fun _ _ => rfl) (fun j hj => absurd hj (by omega)) (fun _ _ => rfl)
      refine ol_aload_n C dX11_thing_95 rfl rfl (by first | exact ol_isq_r _ | exact ol_isq_q _ | exact ol_isq_n) ?_
      refine ol_gR (k := 6) C (by assumption) rfl rfl wd_586 (.inl rfl) dX11_thing_96 ?_
      refine ol_rf (by assumption) ?_
      refine ol_iload C dX11_thing_99 rfl ?_
      refine ol_iconst (v := 0) C dX11_thing_101 (by decide) ?_
      refine ol_sZ n C (by assumption) rfl hq (by decide) rfl dX11_thing_102 ?_
      refine ol_aload_n C dX11_thing_103 rfl rfl (by first | exact ol_isq_r _ | exact ol_isq_q _ | exact ol_isq_n) ?_
      refine ol_gR (k := 7) C (by assumption) rfl rfl wd_587 (.inl rfl) dX11_thing_104 ?_
      refine ol_rf (by assumption) ?_
      refine ol_iload C dX11_thing_107 rfl ?_
      refine ol_iconst (v := 0) C dX11_thing_109 (by decide) ?_
      refine ol_sI n C (by assumption) rfl hq (by decide) dX11_thing_110 ?_
      refine ol_aload_n C dX11_thing_111 rfl rfl (by first | exact ol_isq_r _ | exact ol_isq_q _ | exact ol_isq_n) ?_
      refine ol_dup C dX11_thing_112 (by first | rfl | exact ol_rfc _) ?_
      refine ol_gI (k := 0) C (by assumption) rfl rfl wd_580 (.inl rfl) dX11_thing_113 ?_
      rw [ol_u2_a _ _ n10_28, ol_u2_a _ _ n10_27, g1 _ n10_26, ol_u2_a _ _ n10_25, ol_u2_a _ _ n10_24, ol_u2_a _ _ n10_23, ol_u2_a _ _ n10_22]
      refine ol_ti hn ?_
      refine ol_iconst (v := 1) C dX11_thing_116 (by decide) ?_
      refine ol_iadd C dX11_thing_117 ?_
      refine ol_ti (nI_1 n) ?_
      refine ol_pI (k := 0) C (by assumption) rfl rfl wd_580 (.inl rfl) rfl rfl dX11_thing_118 ?_
      refine ol_iload C dX11_thing_121 rfl ?_
      exact ol_iret C hret hlk rfl (by decide) (by decide) dX11_thing_123 ⟨rfl, rfl, Or.inr (Or.inr ⟨hK, hq, rfl, ol_mth_of hL g1 g2 g3⟩)⟩
    · have hq : n = 40 := (nI_eq (by omega) (by decide)).mp (hn.symm.trans c_19)
      refine ol_ldc (v := (-1000004)) C wd_676 dX11_thing_22 ?_
      exact ol_iret C hret hlk rfl (by decide) (by decide) dX11_thing_24 ⟨rfl, rfl, Or.inr (Or.inl ⟨hK, hq, rfl, rfl⟩)⟩
  · have hK : ¬ ol_k 7 a1 := fun q => ol_p_0.mp c_7 (ol_k_6.mpr q)
    refine ol_ldc (v := (-1000002)) C wd_675 dX11_thing_10 ?_
    exact ol_iret C hret hlk rfl (by decide) (by decide) dX11_thing_12 ⟨rfl, rfl, Or.inl ⟨hK, rfl, rfl⟩⟩

