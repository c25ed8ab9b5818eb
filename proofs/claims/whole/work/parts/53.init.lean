/-! CONSTRUCTORS: a row of new cells, kept in the fields fl of the object x, with the roles rl -/
def ol_J (ro0 : Nat → Nat) (I0 : Nat → Nat → Int32) (F0 : Nat → Nat → Option Nat) (x : Nat) (rl fl : Nat → Nat) (j : Nat) (ga : Nat → Nat) (ro : Nat → Nat) (I : Nat → Nat → Int32) (F : Nat → Nat → Option Nat) : Prop :=
  (∀ i, i < j → ro (ga i) = rl i ∧ I (ga i) = (fun _ => 0) ∧ F x (fl i) = some (ga i) ∧ ro0 (ga i) = 0) ∧ ∀ a, ro0 a ≠ 0 → ro a = ro0 a ∧ I a = I0 a ∧ (a ≠ x → F a = F0 a)
theorem ol_J_0 (ro0 : Nat → Nat) (I0 : Nat → Nat → Int32) (F0 : Nat → Nat → Option Nat) (x : Nat) (rl fl ga : Nat → Nat) : ol_J ro0 I0 F0 x rl fl 0 ga ro0 I0 F0 := ⟨fun i hi => absurd hi (Nat.not_lt_zero i), fun a _ => ⟨rfl, rfl, fun _ => rfl⟩⟩
theorem ol_J.step {ro0 : Nat → Nat} {I0 : Nat → Nat → Int32} {F0 : Nat → Nat → Option Nat} {x : Nat} {rl fl : Nat → Nat} {j : Nat} {ga : Nat → Nat} {ro : Nat → Nat} {I : Nat → Nat → Int32} {F : Nat → Nat → Option Nat} (h : ol_J ro0 I0 F0 x rl fl j ga ro I F) (hx : ro0 x ≠ 0) (hrl : ∀ i, rl i ≠ 0) (hfl : ∀ i, i < j → fl i ≠ fl j) {a : Nat} (ha : ro a = 0) : ol_J ro0 I0 F0 x rl fl (j + 1) (va_up ga j a) (va_up ro a (rl j)) (va_up I a (fun _ => 0)) (ol_u2 (va_up F a (fun _ => none)) x (fl j) (some a)) := by
  have ha0 : ro0 a = 0 := Classical.byContradiction (fun q => by have := (h.2 a q).1; rw [ha] at this; exact q this.symm)
  have hxa : x ≠ a := fun e => hx (by rw [e]; exact ha0)
  refine ⟨fun i hi => ?_, fun c hc => ?_⟩
  · by_cases e : i = j
    · subst e
      rw [va_up_self]
      exact ⟨va_up_self _ _ _, va_up_self _ _ _, ol_u2_s _ _ _ _, ha0⟩
    · obtain ⟨h1, h2, h3, h4⟩ := h.1 i (by omega)
      have hne : ga i ≠ a := fun q => hrl i (by rw [← h1, q, ha])
      rw [va_up_ne _ _ e, va_up_ne _ _ hne, va_up_ne _ _ hne, ol_u2_k _ _ (hfl i (by omega)), va_up_ne _ _ hxa]
      exact ⟨h1, h2, h3, h4⟩
  · have hca : c ≠ a := fun e => hc (by rw [e]; exact ha0)
    obtain ⟨h1, h2, h3⟩ := h.2 c hc
    rw [va_up_ne _ _ hca, va_up_ne _ _ hca]
    refine ⟨h1, h2, fun q => ?_⟩
    rw [ol_u2_a _ _ q, va_up_ne _ _ hca]
    exact h3 q
theorem ol_is_up {ro : Nat → Nat} {x a r : Nat} {c : Nat ⊕ (Nat × Nat)} (h : ol_is ro x c) (ha : ro a = 0) : ol_is (va_up ro a r) x c := by
  have : x ≠ a := fun e => h.1 (by rw [e]; exact ha)
  unfold ol_is
  rw [va_up_ne _ _ this]
  exact h
/-- what the constructor of a graph leaves; B its role -/
def ol_gn (B x : Nat) (ro : Nat → Nat) (I : Nat → Nat → Int32) (F : Nat → Nat → Option Nat) (ro' : Nat → Nat) (I' : Nat → Nat → Int32) (F' : Nat → Nat → Option Nat) (ga : Nat → Nat) : Prop :=
  (∀ i, i < 9 → ro' (ga i) = B + 1 + i ∧ F' x i = some (ga i) ∧ ro (ga i) = 0) ∧ (∀ a, ro a ≠ 0 → ro' a = ro a ∧ (a ≠ x → I' a = I a ∧ F' a = F a)) ∧ (∀ k, 9 ≤ k → k ≤ 11 → I' x k = 0) ∧ (∀ t, t < 40 → I' (ga 1) t = -1000009) ∧ I' (ga 3) 0 = 0
theorem ol_J.gn {B x : Nat} {ro0 : Nat → Nat} {I0 : Nat → Nat → Int32} {F0 : Nat → Nat → Option Nat} {ga : Nat → Nat} {ro : Nat → Nat} {I : Nat → Nat → Int32} {F : Nat → Nat → Option Nat} (h : ol_J ro0 I0 F0 x (fun i => B + 1 + i) (fun i => i) 9 ga ro I F) (hx : ro0 x ≠ 0) {a : Nat} (ha : ga 1 = a) : ol_gn B x ro0 I0 F0 ro (va_up (ol_u2 (ol_u2 (ol_u2 I x 9 0) x 10 0) x 11 0) a (ol_fi (ol_u2 (ol_u2 (ol_u2 I x 9 0) x 10 0) x 11 0 a) 40 (-1000009))) F ga := by
  subst ha
  have hxg : ∀ i, i < 9 → x ≠ ga i := fun i hi e => hx (by rw [e]; exact (h.1 i hi).2.2.2)
  have h1 := hxg 1 (by decide)
  refine ⟨fun i hi => ⟨(h.1 i hi).1, (h.1 i hi).2.2.1, (h.1 i hi).2.2.2⟩, fun a ha => ⟨(h.2 a ha).1, fun hax => ⟨?_, (h.2 a ha).2.2 hax⟩⟩, fun k h9 h11 => ?_, fun t ht => ?_, ?_⟩
  · have hag : a ≠ ga 1 := fun e => ha (by rw [e]; exact (h.1 1 (by decide)).2.2.2)
    rw [va_up_ne _ _ hag, ol_u2_a _ _ hax, ol_u2_a _ _ hax, ol_u2_a _ _ hax]
    exact (h.2 a ha).2.1
  · rw [va_up_ne _ _ h1]
    have : k = 9 ∨ k = 10 ∨ k = 11 := by omega
    rcases this with rfl | rfl | rfl
    · rw [ol_u2_k _ _ (by decide), ol_u2_k _ _ (by decide), ol_u2_s]
    · rw [ol_u2_k _ _ (by decide), ol_u2_s]
    · rw [ol_u2_s]
  · rw [va_up_self, ol_fi_lt ht]
  · have h31 : ga 3 ≠ ga 1 := fun e => by
      have q1 : ro (ga 3) = B + 1 + 3 := (h.1 3 (by decide)).1
      have q2 : ro (ga 1) = B + 1 + 1 := (h.1 1 (by decide)).1
      rw [e, q2] at q1
      omega
    have hx3 : ga 3 ≠ x := Ne.symm (hxg 3 (by decide))
    rw [va_up_ne _ _ h31, ol_u2_a _ _ hx3, ol_u2_a _ _ hx3, ol_u2_a _ _ hx3, (h.1 3 (by decide)).2.1]

set_option maxRecDepth 100000 in
set_option maxHeartbeats 4000000 in
theorem g_init50 (l : Launch) (D : va_G) (cA : Nat → ClassId) {ro : Nat → Nat} {I : Nat → Nat → Int32} {F : Nat → Nat → Option Nat} {x : Nat} (hr : ro x = 50) : ol_M l D cA yX4_init cX4_init 1 none (ol_r 1 9 961) [.ref x] ro I F (fun v ro' I' F' => v = none ∧ ∃ ga, ol_gn 50 x ro I F ro' I' F' ga) := by
  refine ol_M.of (by decide +kernel) (Nat.le_of_ble_eq_true rfl) (by simp [Value.category, ol_rfc]) ?_
  intro p e s m args below meth c C hret hlk hin
  have hx : ol_is ro x (.inl 8) := ol_is_of hr (by decide) rfl
  have hJ := ol_J_0 ro I F x (fun i => 50 + 1 + i) (fun i => i) (fun _ => 0)
  refine ol_aload_n C dX4_init_0 rfl rfl (by first | exact ol_isq_r _ | exact ol_isq_q _ | exact ol_isq_n) ?_
  refine ol_oinit C wd_29 dX4_init_1 (by decide) (by decide) (by first | exact Nat.le_of_ble_eq_true rfl | simp [ol_rfc, Value.category]) ?_
  refine ol_aload_n C dX4_init_4 rfl rfl (by first | exact ol_isq_r _ | exact ol_isq_q _ | exact ol_isq_n) ?_
  refine ol_bipush (v := 40) C dX4_init_5 (by decide) ?_
  refine ol_newQ (t := 3) (r := 51) C rfl rfl wd_30 (by decide) rfl (by decide) (by decide) (by decide) (by decide) (by decide) (by decide) dX4_init_7 (fun a_7 z_7 => ?_)
  have hx_7 := ol_is_up (r := 51) hx z_7
  refine ol_pRF (k := 0) (r := some _) C rfl hx_7 rfl rfl wd_36 (.inl rfl) hin rfl (ol_nara _ _) dX4_init_10 ?_
  have hJ_7 := hJ.step hx.1 (fun i => by omega) (fun i hi => by omega) z_7
  refine ol_aload_n C dX4_init_13 rfl rfl (by first | exact ol_isq_r _ | exact ol_isq_q _ | exact ol_isq_n) ?_
  refine ol_bipush (v := 40) C dX4_init_14 (by decide) ?_
  refine ol_newI (r := 52) C wd_83 rfl (by decide) (by decide) (by decide) (by decide) (by decide) (by decide) dX4_init_16 (fun a_16 z_16 => ?_)
  have hx_16 := ol_is_up (r := 52) hx_7 z_16
  refine ol_pRF (k := 1) (r := some _) C rfl hx_16 rfl rfl wd_38 (.inl rfl) hin rfl (ol_nara _ _) dX4_init_18 ?_
  have hJ_16 := hJ_7.step hx.1 (fun i => by omega) (fun i hi => by omega) z_16
  refine ol_aload_n C dX4_init_21 rfl rfl (by first | exact ol_isq_r _ | exact ol_isq_q _ | exact ol_isq_n) ?_
  refine ol_bipush (v := 40) C dX4_init_22 (by decide) ?_
  refine ol_newI (r := 53) C wd_83 rfl (by decide) (by decide) (by decide) (by decide) (by decide) (by decide) dX4_init_24 (fun a_24 z_24 => ?_)
  have hx_24 := ol_is_up (r := 53) hx_16 z_24
  refine ol_pRF (k := 2) (r := some _) C rfl hx_24 rfl rfl wd_40 (.inl rfl) hin rfl (ol_nara _ _) dX4_init_26 ?_
  have hJ_24 := hJ_16.step hx.1 (fun i => by omega) (fun i hi => by omega) z_24
  refine ol_aload_n C dX4_init_29 rfl rfl (by first | exact ol_isq_r _ | exact ol_isq_q _ | exact ol_isq_n) ?_
  refine ol_bipush (v := 41) C dX4_init_30 (by decide) ?_
  refine ol_newI (r := 54) C wd_83 rfl (by decide) (by decide) (by decide) (by decide) (by decide) (by decide) dX4_init_32 (fun a_32 z_32 => ?_)
  have hx_32 := ol_is_up (r := 54) hx_24 z_32
  refine ol_pRF (k := 3) (r := some _) C rfl hx_32 rfl rfl wd_42 (.inl rfl) hin rfl (ol_nara _ _) dX4_init_34 ?_
  have hJ_32 := hJ_24.step hx.1 (fun i => by omega) (fun i hi => by omega) z_32
  refine ol_aload_n C dX4_init_37 rfl rfl (by first | exact ol_isq_r _ | exact ol_isq_q _ | exact ol_isq_n) ?_
  refine ol_sipush (v := 240) C dX4_init_38 (by decide) ?_
  refine ol_newI (r := 55) C wd_83 rfl (by decide) (by decide) (by decide) (by decide) (by decide) (by decide) dX4_init_41 (fun a_41 z_41 => ?_)
  have hx_41 := ol_is_up (r := 55) hx_32 z_41
  refine ol_pRF (k := 4) (r := some _) C rfl hx_41 rfl rfl wd_44 (.inl rfl) hin rfl (ol_nara _ _) dX4_init_43 ?_
  have hJ_41 := hJ_32.step hx.1 (fun i => by omega) (fun i hi => by omega) z_41
  refine ol_aload_n C dX4_init_46 rfl rfl (by first | exact ol_isq_r _ | exact ol_isq_q _ | exact ol_isq_n) ?_
  refine ol_sipush (v := 240) C dX4_init_47 (by decide) ?_
  refine ol_newI (r := 56) C wd_83 rfl (by decide) (by decide) (by decide) (by decide) (by decide) (by decide) dX4_init_50 (fun a_50 z_50 => ?_)
  have hx_50 := ol_is_up (r := 56) hx_41 z_50
  refine ol_pRF (k := 5) (r := some _) C rfl hx_50 rfl rfl wd_46 (.inl rfl) hin rfl (ol_nara _ _) dX4_init_52 ?_
  have hJ_50 := hJ_41.step hx.1 (fun i => by omega) (fun i hi => by omega) z_50
  refine ol_aload_n C dX4_init_55 rfl rfl (by first | exact ol_isq_r _ | exact ol_isq_q _ | exact ol_isq_n) ?_
  refine ol_sipush (v := 240) C dX4_init_56 (by decide) ?_
  refine ol_newZ (r := 57) C wd_84 rfl (by decide) (by decide) (by decide) (by decide) (by decide) (by decide) dX4_init_59 (fun a_59 z_59 => ?_)
  have hx_59 := ol_is_up (r := 57) hx_50 z_59
  refine ol_pRF (k := 6) (r := some _) C rfl hx_59 rfl rfl wd_48 (.inl rfl) hin rfl (ol_nara _ _) dX4_init_61 ?_
  have hJ_59 := hJ_50.step hx.1 (fun i => by omega) (fun i hi => by omega) z_59
  refine ol_aload_n C dX4_init_64 rfl rfl (by first | exact ol_isq_r _ | exact ol_isq_q _ | exact ol_isq_n) ?_
  refine ol_bipush (v := 40) C dX4_init_65 (by decide) ?_
  refine ol_newI (r := 58) C wd_83 rfl (by decide) (by decide) (by decide) (by decide) (by decide) (by decide) dX4_init_67 (fun a_67 z_67 => ?_)
  have hx_67 := ol_is_up (r := 58) hx_59 z_67
  refine ol_pRF (k := 7) (r := some _) C rfl hx_67 rfl rfl wd_50 (.inl rfl) hin rfl (ol_nara _ _) dX4_init_69 ?_
  have hJ_67 := hJ_59.step hx.1 (fun i => by omega) (fun i hi => by omega) z_67
  refine ol_aload_n C dX4_init_72 rfl rfl (by first | exact ol_isq_r _ | exact ol_isq_q _ | exact ol_isq_n) ?_
  refine ol_bipush (v := 40) C dX4_init_73 (by decide) ?_
  refine ol_newI (r := 59) C wd_83 rfl (by decide) (by decide) (by decide) (by decide) (by decide) (by decide) dX4_init_75 (fun a_75 z_75 => ?_)
  have hx_75 := ol_is_up (r := 59) hx_67 z_75
  refine ol_pRF (k := 8) (r := some _) C rfl hx_75 rfl rfl wd_51 (.inl rfl) hin rfl (ol_nara _ _) dX4_init_77 ?_
  have hJ_75 := hJ_67.step hx.1 (fun i => by omega) (fun i hi => by omega) z_75
  refine ol_aload_n C dX4_init_80 rfl rfl (by first | exact ol_isq_r _ | exact ol_isq_q _ | exact ol_isq_n) ?_
  refine ol_iconst (v := 0) C dX4_init_81 (by decide) ?_
  refine ol_pI (k := 9) C hx_75 rfl rfl wd_52 (.inl rfl) rfl rfl dX4_init_82 ?_
  refine ol_aload_n C dX4_init_85 rfl rfl (by first | exact ol_isq_r _ | exact ol_isq_q _ | exact ol_isq_n) ?_
  refine ol_iconst (v := 0) C dX4_init_86 (by decide) ?_
  refine ol_pI (k := 10) C hx_75 rfl rfl wd_54 (.inl rfl) rfl rfl dX4_init_87 ?_
  refine ol_aload_n C dX4_init_90 rfl rfl (by first | exact ol_isq_r _ | exact ol_isq_q _ | exact ol_isq_n) ?_
  refine ol_iconst (v := 0) C dX4_init_91 (by decide) ?_
  refine ol_pI (k := 11) C hx_75 rfl rfl wd_56 (.inl rfl) rfl rfl dX4_init_92 ?_
  refine ol_aload_n C dX4_init_95 rfl rfl (by first | exact ol_isq_r _ | exact ol_isq_q _ | exact ol_isq_n) ?_
  refine ol_gR (k := 1) C hx_75 rfl rfl wd_38 (.inl rfl) dX4_init_96 ?_
  refine ol_rf (hJ_75.1 1 (by decide)).2.2.1 ?_
  have i16 := ol_is_of (hJ_75.1 1 (by decide)).1 (show 50 + 1 + 1 ≠ 0 by decide) (show ol_ct (50 + 1 + 1) = .inr (0, 40) from rfl)
  refine ol_ldc (v := (-1000009)) C wd_32 dX4_init_99 ?_
  refine ol_callS C (j_fill l D cA i16 (by decide) (-1000009)) wd_35 wd_3 wd_33 wd_34 mh_J7_fill_53178 (by decide) rfl (by first | exact Nat.le_of_ble_eq_true rfl | simp [ol_rfc, Value.category]) dX4_init_101 (ol_xv ?_)
  exact ol_vret C hret hlk (by decide) (by decide) dX4_init_104 ⟨rfl, _, hJ_75.gn hx.1 rfl⟩

set_option maxRecDepth 100000 in
set_option maxHeartbeats 4000000 in
theorem g_init60 (l : Launch) (D : va_G) (cA : Nat → ClassId) {ro : Nat → Nat} {I : Nat → Nat → Int32} {F : Nat → Nat → Option Nat} {x : Nat} (hr : ro x = 60) : ol_M l D cA yX4_init cX4_init 1 none (ol_r 1 9 961) [.ref x] ro I F (fun v ro' I' F' => v = none ∧ ∃ ga, ol_gn 60 x ro I F ro' I' F' ga) := by
  refine ol_M.of (by decide +kernel) (Nat.le_of_ble_eq_true rfl) (by simp [Value.category, ol_rfc]) ?_
  intro p e s m args below meth c C hret hlk hin
  have hx : ol_is ro x (.inl 8) := ol_is_of hr (by decide) rfl
  have hJ := ol_J_0 ro I F x (fun i => 60 + 1 + i) (fun i => i) (fun _ => 0)
  refine ol_aload_n C dX4_init_0 rfl rfl (by first | exact ol_isq_r _ | exact ol_isq_q _ | exact ol_isq_n) ?_
  refine ol_oinit C wd_29 dX4_init_1 (by decide) (by decide) (by first | exact Nat.le_of_ble_eq_true rfl | simp [ol_rfc, Value.category]) ?_
  refine ol_aload_n C dX4_init_4 rfl rfl (by first | exact ol_isq_r _ | exact ol_isq_q _ | exact ol_isq_n) ?_
  refine ol_bipush (v := 40) C dX4_init_5 (by decide) ?_
  refine ol_newQ (t := 3) (r := 61) C rfl rfl wd_30 (by decide) rfl (by decide) (by decide) (by decide) (by decide) (by decide) (by decide) dX4_init_7 (fun a_7 z_7 => ?_)
  have hx_7 := ol_is_up (r := 61) hx z_7
  refine ol_pRF (k := 0) (r := some _) C rfl hx_7 rfl rfl wd_36 (.inl rfl) hin rfl (ol_nara _ _) dX4_init_10 ?_
  have hJ_7 := hJ.step hx.1 (fun i => by omega) (fun i hi => by omega) z_7
  refine ol_aload_n C dX4_init_13 rfl rfl (by first | exact ol_isq_r _ | exact ol_isq_q _ | exact ol_isq_n) ?_
  refine ol_bipush (v := 40) C dX4_init_14 (by decide) ?_
  refine ol_newI (r := 62) C wd_83 rfl (by decide) (by decide) (by decide) (by decide) (by decide) (by decide) dX4_init_16 (fun a_16 z_16 => ?_)
  have hx_16 := ol_is_up (r := 62) hx_7 z_16
  refine ol_pRF (k := 1) (r := some _) C rfl hx_16 rfl rfl wd_38 (.inl rfl) hin rfl (ol_nara _ _) dX4_init_18 ?_
  have hJ_16 := hJ_7.step hx.1 (fun i => by omega) (fun i hi => by omega) z_16
  refine ol_aload_n C dX4_init_21 rfl rfl (by first | exact ol_isq_r _ | exact ol_isq_q _ | exact ol_isq_n) ?_
  refine ol_bipush (v := 40) C dX4_init_22 (by decide) ?_
  refine ol_newI (r := 63) C wd_83 rfl (by decide) (by decide) (by decide) (by decide) (by decide) (by decide) dX4_init_24 (fun a_24 z_24 => ?_)
  have hx_24 := ol_is_up (r := 63) hx_16 z_24
  refine ol_pRF (k := 2) (r := some _) C rfl hx_24 rfl rfl wd_40 (.inl rfl) hin rfl (ol_nara _ _) dX4_init_26 ?_
  have hJ_24 := hJ_16.step hx.1 (fun i => by omega) (fun i hi => by omega) z_24
  refine ol_aload_n C dX4_init_29 rfl rfl (by first | exact ol_isq_r _ | exact ol_isq_q _ | exact ol_isq_n) ?_
  refine ol_bipush (v := 41) C dX4_init_30 (by decide) ?_
  refine ol_newI (r := 64) C wd_83 rfl (by decide) (by decide) (by decide) (by decide) (by decide) (by decide) dX4_init_32 (fun a_32 z_32 => ?_)
  have hx_32 := ol_is_up (r := 64) hx_24 z_32
  refine ol_pRF (k := 3) (r := some _) C rfl hx_32 rfl rfl wd_42 (.inl rfl) hin rfl (ol_nara _ _) dX4_init_34 ?_
  have hJ_32 := hJ_24.step hx.1 (fun i => by omega) (fun i hi => by omega) z_32
  refine ol_aload_n C dX4_init_37 rfl rfl (by first | exact ol_isq_r _ | exact ol_isq_q _ | exact ol_isq_n) ?_
  refine ol_sipush (v := 240) C dX4_init_38 (by decide) ?_
  refine ol_newI (r := 65) C wd_83 rfl (by decide) (by decide) (by decide) (by decide) (by decide) (by decide) dX4_init_41 (fun a_41 z_41 => ?_)
  have hx_41 := ol_is_up (r := 65) hx_32 z_41
  refine ol_pRF (k := 4) (r := some _) C rfl hx_41 rfl rfl wd_44 (.inl rfl) hin rfl (ol_nara _ _) dX4_init_43 ?_
  have hJ_41 := hJ_32.step hx.1 (fun i => by omega) (fun i hi => by omega) z_41
  refine ol_aload_n C dX4_init_46 rfl rfl (by first | exact ol_isq_r _ | exact ol_isq_q _ | exact ol_isq_n) ?_
  refine ol_sipush (v := 240) C dX4_init_47 (by decide) ?_
  refine ol_newI (r := 66) C wd_83 rfl (by decide) (by decide) (by decide) (by decide) (by decide) (by decide) dX4_init_50 (fun a_50 z_50 => ?_)
  have hx_50 := ol_is_up (r := 66) hx_41 z_50
  refine ol_pRF (k := 5) (r := some _) C rfl hx_50 rfl rfl wd_46 (.inl rfl) hin rfl (ol_nara _ _) dX4_init_52 ?_
  have hJ_50 := hJ_41.step hx.1 (fun i => by omega) (fun i hi => by omega) z_50
  refine ol_aload_n C dX4_init_55 rfl rfl (by first | exact ol_isq_r _ | exact ol_isq_q _ | exact ol_isq_n) ?_
  refine ol_sipush (v := 240) C dX4_init_56 (by decide) ?_
  refine ol_newZ (r := 67) C wd_84 rfl (by decide) (by decide) (by decide) (by decide) (by decide) (by decide) dX4_init_59 (fun a_59 z_59 => ?_)
  have hx_59 := ol_is_up (r := 67) hx_50 z_59
  refine ol_pRF (k := 6) (r := some _) C rfl hx_59 rfl rfl wd_48 (.inl rfl) hin rfl (ol_nara _ _) dX4_init_61 ?_
  have hJ_59 := hJ_50.step hx.1 (fun i => by omega) (fun i hi => by omega) z_59
  refine ol_aload_n C dX4_init_64 rfl rfl (by first | exact ol_isq_r _ | exact ol_isq_q _ | exact ol_isq_n) ?_
  refine ol_bipush (v := 40) C dX4_init_65 (by decide) ?_
  refine ol_newI (r := 68) C wd_83 rfl (by decide) (by decide) (by decide) (by decide) (by decide) (by decide) dX4_init_67 (fun a_67 z_67 => ?_)
  have hx_67 := ol_is_up (r := 68) hx_59 z_67
  refine ol_pRF (k := 7) (r := some _) C rfl hx_67 rfl rfl wd_50 (.inl rfl) hin rfl (ol_nara _ _) dX4_init_69 ?_
  have hJ_67 := hJ_59.step hx.1 (fun i => by omega) (fun i hi => by omega) z_67
  refine ol_aload_n C dX4_init_72 rfl rfl (by first | exact ol_isq_r _ | exact ol_isq_q _ | exact ol_isq_n) ?_
  refine ol_bipush (v := 40) C dX4_init_73 (by decide) ?_
  refine ol_newI (r := 69) C wd_83 rfl (by decide) (by decide) (by decide) (by decide) (by decide) (by decide) dX4_init_75 (fun a_75 z_75 => ?_)
  have hx_75 := ol_is_up (r := 69) hx_67 z_75
  refine ol_pRF (k := 8) (r := some _) C rfl hx_75 rfl rfl wd_51 (.inl rfl) hin rfl (ol_nara _ _) dX4_init_77 ?_
  have hJ_75 := hJ_67.step hx.1 (fun i => by omega) (fun i hi => by omega) z_75
  refine ol_aload_n C dX4_init_80 rfl rfl (by first | exact ol_isq_r _ | exact ol_isq_q _ | exact ol_isq_n) ?_
  refine ol_iconst (v := 0) C dX4_init_81 (by decide) ?_
  refine ol_pI (k := 9) C hx_75 rfl rfl wd_52 (.inl rfl) rfl rfl dX4_init_82 ?_
  refine ol_aload_n C dX4_init_85 rfl rfl (by first | exact ol_isq_r _ | exact ol_isq_q _ | exact ol_isq_n) ?_
  refine ol_iconst (v := 0) C dX4_init_86 (by decide) ?_
  refine ol_pI (k := 10) C hx_75 rfl rfl wd_54 (.inl rfl) rfl rfl dX4_init_87 ?_
  refine ol_aload_n C dX4_init_90 rfl rfl (by first | exact ol_isq_r _ | exact ol_isq_q _ | exact ol_isq_n) ?_
  refine ol_iconst (v := 0) C dX4_init_91 (by decide) ?_
  refine ol_pI (k := 11) C hx_75 rfl rfl wd_56 (.inl rfl) rfl rfl dX4_init_92 ?_
  refine ol_aload_n C dX4_init_95 rfl rfl (by first | exact ol_isq_r _ | exact ol_isq_q _ | exact ol_isq_n) ?_
  refine ol_gR (k := 1) C hx_75 rfl rfl wd_38 (.inl rfl) dX4_init_96 ?_
  refine ol_rf (hJ_75.1 1 (by decide)).2.2.1 ?_
  have i16 := ol_is_of (hJ_75.1 1 (by decide)).1 (show 60 + 1 + 1 ≠ 0 by decide) (show ol_ct (60 + 1 + 1) = .inr (0, 40) from rfl)
  refine ol_ldc (v := (-1000009)) C wd_32 dX4_init_99 ?_
  refine ol_callS C (j_fill l D cA i16 (by decide) (-1000009)) wd_35 wd_3 wd_33 wd_34 mh_J7_fill_53178 (by decide) rfl (by first | exact Nat.le_of_ble_eq_true rfl | simp [ol_rfc, Value.category]) dX4_init_101 (ol_xv ?_)
  exact ol_vret C hret hlk (by decide) (by decide) dX4_init_104 ⟨rfl, _, hJ_75.gn hx.1 rfl⟩
