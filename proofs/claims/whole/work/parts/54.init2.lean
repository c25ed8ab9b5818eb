def ol_uX : List Nat := [1, 11, 50, 51, 52, 53, 54, 55, 56, 57, 58, 59, 60, 61, 62, 63, 64, 65, 66, 67, 68, 69]
/-- the class's part of the layout -/
def ol_LX (ro : Nat → Nat) (F : Nat → Nat → Option Nat) (ad : Nat → Nat) : Prop :=
  (∀ r ∈ ol_uX, ro (ad r) = r) ∧ F (ad 1) 0 = some (ad 11) ∧ ∀ b ∈ [50, 60], ∀ j ∈ [0, 1, 2, 3, 4, 5, 6, 7, 8], F (ad b) j = some (ad (b + 1 + j))
def ol_adX (x t g1 g2 : Nat) (a1 a2 : Nat → Nat) : Nat → Nat := fun r => if r = 1 then x else if r = 11 then t else if r = 50 then g1 else if r = 60 then g2 else if r < 60 then a1 (r - 51) else a2 (r - 61)
/-- a new object, as its constructor leaves it -/
def ol_X0 (ro : Nat → Nat) (I : Nat → Nat → Int32) (F : Nat → Nat → Option Nat) (ad : Nat → Nat) : Prop :=
  ol_LX ro F ad ∧ F (ad 1) 2 = some (ad 50) ∧ F (ad 1) 3 = some (ad 60) ∧ I (ad 1) 1 = 0 ∧ I (ad 1) 4 = -1000009 ∧ I (ad 1) 5 = -1000009 ∧ I (ad 1) 6 = 0 ∧ I (ad 1) 7 = 0 ∧ (∀ k, 9 ≤ k → k ≤ 11 → I (ad 50) k = 0) ∧ (∀ t, t < 40 → I (ad 52) t = -1000009) ∧ I (ad 54) 0 = 0 ∧ I (ad 64) 0 = 0

theorem ol_X0_of {ro0 ro3 ro6 : Nat → Nat} {I0 I3 I6 : Nat → Nat → Int32} {F0 F3 F6 : Nat → Nat → Option Nat} {x t g1 g2 : Nat} {a1 a2 : Nat → Nat} (hr : ro0 x = 1) (ht : ro0 t = 0) (hg1 : va_up ro0 t 11 g1 = 0) (h1 : ol_gn 50 g1 (va_up (va_up ro0 t 11) g1 50) (va_up (ol_u2 (va_up I0 t (fun _ => 0)) x 1 0) g1 (fun _ => 0)) (va_up (ol_u2 (va_up F0 t (fun _ => none)) x 0 (some t)) g1 (fun _ => none)) ro3 I3 F3 a1) (hg2 : ro3 g2 = 0) (h2 : ol_gn 60 g2 (va_up ro3 g2 60) (va_up I3 g2 (fun _ => 0)) (va_up (ol_u2 F3 x 2 (some g1)) g2 (fun _ => none)) ro6 I6 F6 a2) : ol_X0 ro6 (ol_u2 (ol_u2 (ol_u2 (ol_u2 I6 x 4 (-1000009)) x 5 (-1000009)) x 6 0) x 7 0) (ol_u2 F6 x 3 (some g2)) (ol_adX x t g1 g2 a1 a2) := by
  have xt : x ≠ t := fun e => by rw [e, ht] at hr; exact absurd hr (by decide)
  have g1t : g1 ≠ t := fun e => by rw [e, va_up_self] at hg1; exact absurd hg1 (by decide)
  rw [va_up_ne _ _ g1t] at hg1
  have xg1 : x ≠ g1 := fun e => by rw [e, hg1] at hr; exact absurd hr (by decide)
  -- the first graph is there
  have x2 : va_up (va_up ro0 t 11) g1 50 x = 1 := by rw [va_up_ne _ _ xg1, va_up_ne _ _ xt]; exact hr
  have t2 : va_up (va_up ro0 t 11) g1 50 t = 11 := by rw [va_up_ne _ _ (Ne.symm g1t), va_up_self]
  have g2' : va_up (va_up ro0 t 11) g1 50 g1 = 50 := va_up_self _ _ _
  have fx := h1.2.1 x (by rw [x2]; decide)
  have ft := h1.2.1 t (by rw [t2]; decide)
  have fg := h1.2.1 g1 (by rw [g2']; decide)
  have rx3 : ro3 x = 1 := fx.1.trans x2
  have rt3 : ro3 t = 11 := ft.1.trans t2
  have rg3 : ro3 g1 = 50 := fg.1.trans g2'
  have xg2 : x ≠ g2 := fun e => by rw [e, hg2] at rx3; exact absurd rx3 (by decide)
  have tg2 : t ≠ g2 := fun e => by rw [e, hg2] at rt3; exact absurd rt3 (by decide)
  have gg2 : g1 ≠ g2 := fun e => by rw [e, hg2] at rg3; exact absurd rg3 (by decide)
  have ra3 : ∀ i, i < 9 → ro3 (a1 i) = 50 + 1 + i := fun i hi => (h1.1 i hi).1
  have ag2 : ∀ i, i < 9 → a1 i ≠ g2 := fun i hi e => by have := ra3 i hi; rw [e, hg2] at this; omega
  have ax : ∀ i, i < 9 → a1 i ≠ x := fun i hi e => by have := ra3 i hi; rw [e, rx3] at this; omega
  have F3x : F3 x 0 = some t := by
    rw [(fx.2 xg1).2, va_up_ne _ _ xg1, ol_u2_s]
  have I3x : I3 x 1 = 0 := by
    rw [(fx.2 xg1).1, va_up_ne _ _ xg1, ol_u2_s]
  -- the second
  have K5 : ∀ a, a ≠ g2 → ro3 a ≠ 0 → ro6 a = ro3 a ∧ I6 a = I3 a ∧ F6 a = ol_u2 F3 x 2 (some g1) a := by
    intro a h h0
    have q := h2.2.1 a (by rw [va_up_ne _ _ h]; exact h0)
    rw [va_up_ne _ _ h] at q
    have q2 := q.2 h
    rw [va_up_ne _ _ h, va_up_ne _ _ h] at q2
    exact ⟨q.1, q2.1, q2.2⟩
  have kx := K5 x xg2 (by rw [rx3]; decide)
  have kt := K5 t tg2 (by rw [rt3]; decide)
  have kg := K5 g1 gg2 (by rw [rg3]; decide)
  have ka : ∀ i, i < 9 → ro6 (a1 i) = 50 + 1 + i ∧ I6 (a1 i) = I3 (a1 i) := fun i hi => by
    have q := K5 (a1 i) (ag2 i hi) (by rw [ra3 i hi]; omega)
    exact ⟨q.1.trans (ra3 i hi), q.2.1⟩
  have rg6 : ro6 g2 = 60 := by
    have q := (h2.2.1 g2 (by rw [va_up_self]; decide)).1
    rw [va_up_self] at q
    exact q
  have rx6 : ro6 x = 1 := kx.1.trans rx3
  have bx : ∀ i, i < 9 → a2 i ≠ x := fun i hi e => by have := (h2.1 i hi).1; rw [e, rx6] at this; omega
  have A1 : ol_adX x t g1 g2 a1 a2 1 = x := rfl
  have A11 : ol_adX x t g1 g2 a1 a2 11 = t := rfl
  have A50 : ol_adX x t g1 g2 a1 a2 50 = g1 := rfl
  have A60 : ol_adX x t g1 g2 a1 a2 60 = g2 := rfl
  have A5 : ∀ i, i < 9 → ol_adX x t g1 g2 a1 a2 (50 + 1 + i) = a1 i := by
    intro i hi
    unfold ol_adX
    rw [if_neg (by omega), if_neg (by omega), if_neg (by omega), if_neg (by omega), if_pos (by omega)]
    exact congrArg a1 (by omega)
  have A6 : ∀ i, i < 9 → ol_adX x t g1 g2 a1 a2 (60 + 1 + i) = a2 i := by
    intro i hi
    unfold ol_adX
    rw [if_neg (by omega), if_neg (by omega), if_neg (by omega), if_neg (by omega), if_neg (by omega)]
    exact congrArg a2 (by omega)
  have Ix : ∀ k, k ≠ 4 → k ≠ 5 → k ≠ 6 → k ≠ 7 → ol_u2 (ol_u2 (ol_u2 (ol_u2 I6 x 4 (-1000009)) x 5 (-1000009)) x 6 0) x 7 0 x k = I6 x k := fun k h4 h5 h6 h7 => by
    rw [ol_u2_k _ _ h7, ol_u2_k _ _ h6, ol_u2_k _ _ h5, ol_u2_k _ _ h4]
  have Ia : ∀ a, a ≠ x → ol_u2 (ol_u2 (ol_u2 (ol_u2 I6 x 4 (-1000009)) x 5 (-1000009)) x 6 0) x 7 0 a = I6 a := fun a h => by
    rw [ol_u2_a _ _ h, ol_u2_a _ _ h, ol_u2_a _ _ h, ol_u2_a _ _ h]
  have Fx : ∀ k, k ≠ 3 → ol_u2 F6 x 3 (some g2) x k = F6 x k := fun k h => ol_u2_k _ _ h
  have Fa : ∀ a, a ≠ x → ol_u2 F6 x 3 (some g2) a = F6 a := fun a h => ol_u2_a _ _ h
  refine ⟨⟨?_, ?_, ?_⟩, ?_, ?_, ?_, ?_, ?_, ?_, ?_, ?_, ?_, ?_, ?_⟩
  · intro r hr2
    have h3 : r = 1 ∨ r = 11 ∨ r = 50 ∨ r = 60 ∨ (51 ≤ r ∧ r ≤ 59) ∨ (61 ≤ r ∧ r ≤ 69) := by
      revert r
      decide
    rcases h3 with rfl | rfl | rfl | rfl | h3 | h3
    · exact rx6
    · exact kt.1.trans rt3
    · exact kg.1.trans rg3
    · exact rg6
    · have e : r = 50 + 1 + (r - 51) := by omega
      rw [e, A5 (r - 51) (by omega)]
      exact (ka (r - 51) (by omega)).1
    · have e : r = 60 + 1 + (r - 61) := by omega
      rw [e, A6 (r - 61) (by omega)]
      exact (h2.1 (r - 61) (by omega)).1
  · rw [A1, A11, Fx 0 (by decide), kx.2.2, ol_u2_k _ _ (by decide)]
    exact F3x
  · intro b hb j hj
    have hj9 : j < 9 := by
      revert j
      decide
    rcases ol_5060 hb with rfl | rfl
    · rw [A50, A5 j hj9, Fa g1 (Ne.symm xg1), kg.2.2, ol_u2_a _ _ (Ne.symm xg1)]
      exact (h1.1 j hj9).2.1
    · rw [A60, A6 j hj9, Fa g2 (Ne.symm xg2)]
      exact (h2.1 j hj9).2.1
  · rw [A1, A50, Fx 2 (by decide), kx.2.2, ol_u2_s]
  · rw [A1, A60, ol_u2_s]
  · rw [A1, Ix 1 (by decide) (by decide) (by decide) (by decide), kx.2.1]
    exact I3x
  · rw [A1, ol_u2_k _ _ (by decide), ol_u2_k _ _ (by decide), ol_u2_k _ _ (by decide), ol_u2_s]
  · rw [A1, ol_u2_k _ _ (by decide), ol_u2_k _ _ (by decide), ol_u2_s]
  · rw [A1, ol_u2_k _ _ (by decide), ol_u2_s]
  · rw [A1, ol_u2_s]
  · intro k h9 h11
    rw [A50, Ia g1 (Ne.symm xg1), kg.2.1]
    exact h1.2.2.1 k h9 h11
  · intro j hj
    rw [show ol_adX x t g1 g2 a1 a2 52 = a1 1 from A5 1 (by decide), Ia _ (ax 1 (by decide)), (ka 1 (by decide)).2]
    exact h1.2.2.2.1 j hj
  · rw [show ol_adX x t g1 g2 a1 a2 54 = a1 3 from A5 3 (by decide), Ia _ (ax 3 (by decide)), (ka 3 (by decide)).2]
    exact h1.2.2.2.2
  · rw [show ol_adX x t g1 g2 a1 a2 64 = a2 3 from A6 3 (by decide), Ia _ (bx 3 (by decide))]
    exact h2.2.2.2.2

set_option maxRecDepth 100000 in
set_option maxHeartbeats 4000000 in
theorem x_init (l : Launch) (D : va_G) (cA : Nat → ClassId) {ro : Nat → Nat} {I : Nat → Nat → Int32} {F : Nat → Nat → Option Nat} {x : Nat} (hr : ro x = 1) : ol_M l D cA yX10_init cX10_init 1 none (ol_r 2 21 1986) [.ref x] ro I F (fun v ro' I' F' => v = none ∧ ∃ ad, ad 1 = x ∧ ol_X0 ro' I' F' ad) := by
  refine ol_M.of (by decide +kernel) (Nat.le_of_ble_eq_true rfl) (by simp [Value.category, ol_rfc]) ?_
  intro p e s m args below meth c C hret hlk hin
  have hx : ol_is ro x (.inl 0) := ol_is_of hr (by decide) rfl
  refine ol_aload_n C dX10_init_0 rfl rfl (by first | exact ol_isq_r _ | exact ol_isq_q _ | exact ol_isq_n) ?_
  refine ol_oinit C wd_19 dX10_init_1 (by decide) (by decide) (by first | exact Nat.le_of_ble_eq_true rfl | simp [ol_rfc, Value.category]) ?_
  refine ol_aload_n C dX10_init_4 rfl rfl (by first | exact ol_isq_r _ | exact ol_isq_q _ | exact ol_isq_n) ?_
  refine ol_bipush (v := 40) C dX10_init_5 (by decide) ?_
  refine ol_newQ (t := 2) (r := 11) C rfl rfl wd_22 (by decide) rfl (by decide) (by decide) (by decide) (by decide) (by decide) (by decide) dX10_init_7 (fun a_7 z_7 => ?_)
  have hx_7 := ol_is_up (r := 11) hx z_7
  refine ol_pRF (k := 0) (r := some _) C rfl hx_7 rfl rfl wd_86 (.inl rfl) hin rfl (ol_nara _ _) dX10_init_10 ?_
  refine ol_aload_n C dX10_init_13 rfl rfl (by first | exact ol_isq_r _ | exact ol_isq_q _ | exact ol_isq_n) ?_
  refine ol_iconst (v := 0) C dX10_init_14 (by decide) ?_
  refine ol_pI (k := 1) C hx_7 rfl rfl wd_87 (.inl rfl) rfl rfl dX10_init_15 ?_
  refine ol_aload_n C dX10_init_18 rfl rfl (by first | exact ol_isq_r _ | exact ol_isq_q _ | exact ol_isq_n) ?_
  refine ol_new (ci := 8) (r := 50) C rfl rfl (by decide) wd_24 wd_25 wd_2 (by decide) (by decide) dX10_init_19 (fun a_19 z_19 => ?_)
  have hx_19 := ol_is_up (r := 50) hx_7 z_19
  refine ol_dup C dX10_init_22 (by first | rfl | exact ol_rfc _) ?_
  refine ol_callI C (g_init50 l D cA (va_up_self _ _ _)) wd_28 wd_2 wd_26 wd_27 rfl mh_X4_init (by decide) rfl (by first | exact Nat.le_of_ble_eq_true rfl | simp [ol_rfc, Value.category]) dX10_init_23 (fun v_23 ro_23 I_23 F_23 hh_23 => ?_)
  obtain ⟨rfl, a1, h1⟩ := hh_23
  have hx_23 : ol_is ro_23 x (.inl 0) := ⟨by rw [(h1.2.1 x hx_19.1).1]; exact hx_19.1, by rw [(h1.2.1 x hx_19.1).1]; exact hx_19.2⟩
  refine ol_st (st' := _) (List.nil_append _) ?_
  refine ol_pR (k := 2) (r := some _) C rfl hx_23 rfl rfl wd_88 (.inl rfl) (ol_narq _ _) dX10_init_26 ?_
  refine ol_aload_n C dX10_init_29 rfl rfl (by first | exact ol_isq_r _ | exact ol_isq_q _ | exact ol_isq_n) ?_
  refine ol_new (ci := 8) (r := 60) C rfl rfl (by decide) wd_24 wd_25 wd_2 (by decide) (by decide) dX10_init_30 (fun a_30 z_30 => ?_)
  have hx_30 := ol_is_up (r := 60) hx_23 z_30
  refine ol_dup C dX10_init_33 (by first | rfl | exact ol_rfc _) ?_
  refine ol_callI C (g_init60 l D cA (va_up_self _ _ _)) wd_28 wd_2 wd_26 wd_27 rfl mh_X4_init (by decide) rfl (by first | exact Nat.le_of_ble_eq_true rfl | simp [ol_rfc, Value.category]) dX10_init_34 (fun v_34 ro_34 I_34 F_34 hh_34 => ?_)
  obtain ⟨rfl, a2, h2⟩ := hh_34
  have hx_34 : ol_is ro_34 x (.inl 0) := ⟨by rw [(h2.2.1 x hx_30.1).1]; exact hx_30.1, by rw [(h2.2.1 x hx_30.1).1]; exact hx_30.2⟩
  refine ol_st (st' := _) (List.nil_append _) ?_
  refine ol_pR (k := 3) (r := some _) C rfl hx_34 rfl rfl wd_89 (.inl rfl) (ol_narq _ _) dX10_init_37 ?_
  refine ol_aload_n C dX10_init_40 rfl rfl (by first | exact ol_isq_r _ | exact ol_isq_q _ | exact ol_isq_n) ?_
  refine ol_ldc (v := (-1000009)) C wd_85 dX10_init_41 ?_
  refine ol_pI (k := 4) C hx_34 rfl rfl wd_90 (.inl rfl) rfl rfl dX10_init_43 ?_
  refine ol_aload_n C dX10_init_46 rfl rfl (by first | exact ol_isq_r _ | exact ol_isq_q _ | exact ol_isq_n) ?_
  refine ol_ldc (v := (-1000009)) C wd_85 dX10_init_47 ?_
  refine ol_pI (k := 5) C hx_34 rfl rfl wd_91 (.inl rfl) rfl rfl dX10_init_49 ?_
  refine ol_aload_n C dX10_init_52 rfl rfl (by first | exact ol_isq_r _ | exact ol_isq_q _ | exact ol_isq_n) ?_
  refine ol_iconst (v := 0) C dX10_init_53 (by decide) ?_
  refine ol_pI (k := 6) C hx_34 rfl rfl wd_92 (.inl rfl) rfl rfl dX10_init_54 ?_
  refine ol_aload_n C dX10_init_57 rfl rfl (by first | exact ol_isq_r _ | exact ol_isq_q _ | exact ol_isq_n) ?_
  refine ol_iconst (v := 0) C dX10_init_58 (by decide) ?_
  refine ol_pI (k := 7) C hx_34 rfl rfl wd_93 (.inl rfl) rfl rfl dX10_init_59 ?_
  exact ol_vret C hret hlk (by decide) (by decide) dX10_init_62 ⟨rfl, ol_adX x a_7 a_19 a_30 a1 a2, rfl, ol_X0_of hr z_7 z_19 h1 z_30 h2⟩
