def ol_mfl (i : Nat) : Nat := [1, 2, 3, 4, 5, 6, 7, 8, 10, 13, 14, 15, 16, 17, 18, 19, 20, 21, 22, 27, 28].getD i 0
def ol_adM (m : Nat) (ga ad : Nat → Nat) : Nat → Nat := fun r => if r = 10 then m else if 22 ≤ r ∧ r ≤ 42 then ga (r - 22) else ad r
theorem ol_adM_X {m : Nat} {ga ad : Nat → Nat} : ∀ r ∈ ol_uX, ol_adM m ga ad r = ad r := by
  intro r hr
  have h : r ≠ 10 ∧ ¬ (22 ≤ r ∧ r ≤ 42) := by
    revert r
    decide
  unfold ol_adM
  rw [if_neg h.1, if_neg h.2]
theorem ol_J.L {ro0 : Nat → Nat} {I0 : Nat → Nat → Int32} {F0 : Nat → Nat → Option Nat} {m : Nat} {ga ad : Nat → Nat} {ro : Nat → Nat} {I : Nat → Nat → Int32} {F : Nat → Nat → Option Nat} (h : ol_J ro0 I0 F0 m (fun i => 22 + i) ol_mfl 21 ga ro I F) (hr : ro0 m = 10) (hX : ol_LX ro0 F0 ad) : ol_L ro F (ol_adM m ga ad) := by
  have X : ∀ r ∈ ol_uX, ro (ad r) = r ∧ F (ad r) = F0 (ad r) := by
    intro r hr2
    have h2 : r ≠ 0 ∧ r ≠ 10 := by
      revert r
      decide
    have h1 := hX.1 r hr2
    have q := h.2 (ad r) (by rw [h1]; exact h2.1)
    exact ⟨q.1.trans h1, q.2.2 (fun e => h2.2 (by rw [← h1, e, hr]))⟩
  refine ⟨?_, ?_, ?_, ?_⟩
  · intro r hr2
    have h3 : r ∈ ol_uX ∨ r = 10 ∨ (22 ≤ r ∧ r ≤ 42) := by
      revert r
      decide
    rcases h3 with h3 | rfl | h3
    · rw [ol_adM_X r h3]
      exact (X r h3).1
    · exact (h.2 m (by rw [hr]; decide)).1.trans hr
    · unfold ol_adM
      rw [if_neg (by omega), if_pos h3]
      have q : ro (ga (r - 22)) = 22 + (r - 22) := (h.1 (r - 22) (by omega)).1
      omega
  · rw [ol_adM_X 1 (by decide), ol_adM_X 11 (by decide), (X 1 (by decide)).2]
    exact hX.2.1
  · intro b hb j hj
    have h3 : b ∈ ol_uX ∧ b + 1 + j ∈ ol_uX := by
      rcases ol_5060 hb with rfl | rfl <;> (revert j; decide)
    rw [ol_adM_X b h3.1, ol_adM_X _ h3.2, (X b h3.1).2]
    exact hX.2.2 b hb j hj
  · intro q hq
    have h3 : ∃ i, i < 21 ∧ q.1 = ol_mfl i ∧ q.2 = 22 + i := by
      revert q
      decide
    obtain ⟨i, hi, e1, e2⟩ := h3
    have := (h.1 i hi).2.2.1
    rw [e1, e2]
    unfold ol_adM
    rw [if_pos rfl, if_neg (by omega), if_pos (by omega), show 22 + i - 22 = i by omega]
    exact this
/-- the reference, as its constructor leaves it -/
def ol_M0 (I : Nat → Nat → Int32) (ad : Nat → Nat) : Prop := I (ad 10) 0 = 0 ∧ I (ad 10) 12 = 0 ∧ I (ad 10) 23 = 0 ∧ I (ad 10) 26 = 0 ∧ I (ad 31) 0 = 0
theorem ol_J.M0 {ro0 : Nat → Nat} {I0 : Nat → Nat → Int32} {F0 : Nat → Nat → Option Nat} {m : Nat} {ga ad : Nat → Nat} {ro : Nat → Nat} {I : Nat → Nat → Int32} {F : Nat → Nat → Option Nat} (h : ol_J ro0 I0 F0 m (fun i => 22 + i) ol_mfl 21 ga ro I F) (hr : ro0 m = 10) (hX : ol_LX ro0 F0 ad) (hz : I0 m 12 = 0) : ol_M0 (ol_u2 (ol_u2 (ol_u2 (ol_u2 I (ol_adM m ga ad 10) 0 0) (ol_adM m ga ad 31) 0 0) (ol_adM m ga ad 10) 23 0) (ol_adM m ga ad 10) 26 0) (ol_adM m ga ad) ∧ ∀ a, ro0 a ≠ 0 → a ≠ m → ro a = ro0 a ∧ ol_u2 (ol_u2 (ol_u2 (ol_u2 I (ol_adM m ga ad 10) 0 0) (ol_adM m ga ad 31) 0 0) (ol_adM m ga ad 10) 23 0) (ol_adM m ga ad 10) 26 0 a = I0 a ∧ F a = F0 a := by
  have hL := h.L hr hX
  have n31 : ol_adM m ga ad 31 ≠ ol_adM m ga ad 10 := hL.ne (by decide) (by decide) (by decide)
  have I12 : I (ol_adM m ga ad 10) 12 = 0 := by
    show I m 12 = 0
    rw [(h.2 m (by rw [hr]; decide)).2.1]
    exact hz
  refine ⟨⟨?_, ?_, ?_, ?_, ?_⟩, fun a ha hm => ?_⟩
  · rw [ol_u2_k _ _ (by decide), ol_u2_k _ _ (by decide), ol_u2_a _ _ (Ne.symm n31), ol_u2_s]
  · rw [ol_u2_k _ _ (by decide), ol_u2_k _ _ (by decide), ol_u2_a _ _ (Ne.symm n31), ol_u2_k _ _ (by decide)]
    exact I12
  · rw [ol_u2_k _ _ (by decide), ol_u2_s]
  · rw [ol_u2_s]
  · rw [ol_u2_a _ _ n31, ol_u2_a _ _ n31, ol_u2_s]
  · have q := h.2 a ha
    have am : a ≠ ol_adM m ga ad 10 := hm
    have a31 : a ≠ ol_adM m ga ad 31 := fun e => ha (by rw [e]; exact (h.1 9 (by decide)).2.2.2)
    rw [ol_u2_a _ _ am, ol_u2_a _ _ am, ol_u2_a _ _ a31, ol_u2_a _ _ am]
    exact ⟨q.1, q.2.1, q.2.2 hm⟩

set_option maxRecDepth 100000 in
set_option maxHeartbeats 4000000 in
theorem mm_init (l : Launch) (D : va_G) (cA : Nat → ClassId) {ro : Nat → Nat} {I : Nat → Nat → Int32} {F : Nat → Nat → Option Nat} {x : Nat} {ad : Nat → Nat} (hr : ro x = 10) (hX : ol_LX ro F ad) (hz : I x 12 = 0) : ol_M l D cA yX11_init cX11_init 1 none (ol_r 1 21 2400) [.ref x] ro I F (fun v ro' I' F' => v = none ∧ ∃ ad', (∀ r ∈ ol_uX, ad' r = ad r) ∧ ad' 10 = x ∧ ol_L ro' F' ad' ∧ ol_M0 I' ad' ∧ ∀ a, ro a ≠ 0 → a ≠ x → ro' a = ro a ∧ I' a = I a ∧ F' a = F a) := by
  refine ol_M.of (by decide +kernel) (Nat.le_of_ble_eq_true rfl) (by simp [Value.category, ol_rfc]) ?_
  intro p e s m args below meth c C hret hlk hin
  have hx : ol_is ro x (.inl 9) := ol_is_of hr (by decide) rfl
  have hJ := ol_J_0 ro I F x (fun i => 22 + i) ol_mfl (fun _ => 0)
  refine ol_aload_n C dX11_init_0 rfl rfl (by first | exact ol_isq_r _ | exact ol_isq_q _ | exact ol_isq_n) ?_
  refine ol_oinit C wd_575 dX11_init_1 (by decide) (by decide) (by first | exact Nat.le_of_ble_eq_true rfl | simp [ol_rfc, Value.category]) ?_
  refine ol_aload_n C dX11_init_4 rfl rfl (by first | exact ol_isq_r _ | exact ol_isq_q _ | exact ol_isq_n) ?_
  refine ol_bipush (v := 40) C dX11_init_5 (by decide) ?_
  refine ol_newI (r := 22) C wd_83 rfl (by decide) (by decide) (by decide) (by decide) (by decide) (by decide) dX11_init_7 (fun a_7 z_7 => ?_)
  have hx_7 := ol_is_up (r := 22) hx z_7
  refine ol_pRF (k := 1) (r := some _) C rfl hx_7 rfl rfl wd_581 (.inl rfl) hin rfl (ol_nara _ _) dX11_init_9 ?_
  have hJ_7 := hJ.step hx.1 (fun i => by omega) (by decide) z_7
  refine ol_aload_n C dX11_init_12 rfl rfl (by first | exact ol_isq_r _ | exact ol_isq_q _ | exact ol_isq_n) ?_
  refine ol_bipush (v := 40) C dX11_init_13 (by decide) ?_
  refine ol_newI (r := 23) C wd_83 rfl (by decide) (by decide) (by decide) (by decide) (by decide) (by decide) dX11_init_15 (fun a_15 z_15 => ?_)
  have hx_15 := ol_is_up (r := 23) hx_7 z_15
  refine ol_pRF (k := 2) (r := some _) C rfl hx_15 rfl rfl wd_582 (.inl rfl) hin rfl (ol_nara _ _) dX11_init_17 ?_
  have hJ_15 := hJ_7.step hx.1 (fun i => by omega) (by decide) z_15
  refine ol_aload_n C dX11_init_20 rfl rfl (by first | exact ol_isq_r _ | exact ol_isq_q _ | exact ol_isq_n) ?_
  refine ol_bipush (v := 40) C dX11_init_21 (by decide) ?_
  refine ol_newI (r := 24) C wd_83 rfl (by decide) (by decide) (by decide) (by decide) (by decide) (by decide) dX11_init_23 (fun a_23 z_23 => ?_)
  have hx_23 := ol_is_up (r := 24) hx_15 z_23
  refine ol_pRF (k := 3) (r := some _) C rfl hx_23 rfl rfl wd_583 (.inl rfl) hin rfl (ol_nara _ _) dX11_init_25 ?_
  have hJ_23 := hJ_15.step hx.1 (fun i => by omega) (by decide) z_23
  refine ol_aload_n C dX11_init_28 rfl rfl (by first | exact ol_isq_r _ | exact ol_isq_q _ | exact ol_isq_n) ?_
  refine ol_bipush (v := 40) C dX11_init_29 (by decide) ?_
  refine ol_newI (r := 25) C wd_83 rfl (by decide) (by decide) (by decide) (by decide) (by decide) (by decide) dX11_init_31 (fun a_31 z_31 => ?_)
  have hx_31 := ol_is_up (r := 25) hx_23 z_31
  refine ol_pRF (k := 4) (r := some _) C rfl hx_31 rfl rfl wd_584 (.inl rfl) hin rfl (ol_nara _ _) dX11_init_33 ?_
  have hJ_31 := hJ_23.step hx.1 (fun i => by omega) (by decide) z_31
  refine ol_aload_n C dX11_init_36 rfl rfl (by first | exact ol_isq_r _ | exact ol_isq_q _ | exact ol_isq_n) ?_
  refine ol_sipush (v := 240) C dX11_init_37 (by decide) ?_
  refine ol_newI (r := 26) C wd_83 rfl (by decide) (by decide) (by decide) (by decide) (by decide) (by decide) dX11_init_40 (fun a_40 z_40 => ?_)
  have hx_40 := ol_is_up (r := 26) hx_31 z_40
  refine ol_pRF (k := 5) (r := some _) C rfl hx_40 rfl rfl wd_585 (.inl rfl) hin rfl (ol_nara _ _) dX11_init_42 ?_
  have hJ_40 := hJ_31.step hx.1 (fun i => by omega) (by decide) z_40
  refine ol_aload_n C dX11_init_45 rfl rfl (by first | exact ol_isq_r _ | exact ol_isq_q _ | exact ol_isq_n) ?_
  refine ol_bipush (v := 40) C dX11_init_46 (by decide) ?_
  refine ol_newZ (r := 27) C wd_84 rfl (by decide) (by decide) (by decide) (by decide) (by decide) (by decide) dX11_init_48 (fun a_48 z_48 => ?_)
  have hx_48 := ol_is_up (r := 27) hx_40 z_48
  refine ol_pRF (k := 6) (r := some _) C rfl hx_48 rfl rfl wd_586 (.inl rfl) hin rfl (ol_nara _ _) dX11_init_50 ?_
  have hJ_48 := hJ_40.step hx.1 (fun i => by omega) (by decide) z_48
  refine ol_aload_n C dX11_init_53 rfl rfl (by first | exact ol_isq_r _ | exact ol_isq_q _ | exact ol_isq_n) ?_
  refine ol_bipush (v := 40) C dX11_init_54 (by decide) ?_
  refine ol_newI (r := 28) C wd_83 rfl (by decide) (by decide) (by decide) (by decide) (by decide) (by decide) dX11_init_56 (fun a_56 z_56 => ?_)
  have hx_56 := ol_is_up (r := 28) hx_48 z_56
  refine ol_pRF (k := 7) (r := some _) C rfl hx_56 rfl rfl wd_587 (.inl rfl) hin rfl (ol_nara _ _) dX11_init_58 ?_
  have hJ_56 := hJ_48.step hx.1 (fun i => by omega) (by decide) z_56
  refine ol_aload_n C dX11_init_61 rfl rfl (by first | exact ol_isq_r _ | exact ol_isq_q _ | exact ol_isq_n) ?_
  refine ol_bipush (v := 6) C dX11_init_62 (by decide) ?_
  refine ol_newI (r := 29) C wd_83 rfl (by decide) (by decide) (by decide) (by decide) (by decide) (by decide) dX11_init_64 (fun a_64 z_64 => ?_)
  have hx_64 := ol_is_up (r := 29) hx_56 z_64
  refine ol_pRF (k := 8) (r := some _) C rfl hx_64 rfl rfl wd_588 (.inl rfl) hin rfl (ol_nara _ _) dX11_init_66 ?_
  have hJ_64 := hJ_56.step hx.1 (fun i => by omega) (by decide) z_64
  refine ol_aload_n C dX11_init_69 rfl rfl (by first | exact ol_isq_r _ | exact ol_isq_q _ | exact ol_isq_n) ?_
  refine ol_bipush (v := 6) C dX11_init_70 (by decide) ?_
  refine ol_newI (r := 30) C wd_83 rfl (by decide) (by decide) (by decide) (by decide) (by decide) (by decide) dX11_init_72 (fun a_72 z_72 => ?_)
  have hx_72 := ol_is_up (r := 30) hx_64 z_72
  refine ol_pRF (k := 10) (r := some _) C rfl hx_72 rfl rfl wd_590 (.inl rfl) hin rfl (ol_nara _ _) dX11_init_74 ?_
  have hJ_72 := hJ_64.step hx.1 (fun i => by omega) (by decide) z_72
  refine ol_aload_n C dX11_init_77 rfl rfl (by first | exact ol_isq_r _ | exact ol_isq_q _ | exact ol_isq_n) ?_
  refine ol_iconst (v := 2) C dX11_init_78 (by decide) ?_
  refine ol_newI (r := 31) C wd_83 rfl (by decide) (by decide) (by decide) (by decide) (by decide) (by decide) dX11_init_79 (fun a_79 z_79 => ?_)
  have hx_79 := ol_is_up (r := 31) hx_72 z_79
  refine ol_pRF (k := 13) (r := some _) C rfl hx_79 rfl rfl wd_593 (.inl rfl) hin rfl (ol_nara _ _) dX11_init_81 ?_
  have hJ_79 := hJ_72.step hx.1 (fun i => by omega) (by decide) z_79
  refine ol_aload_n C dX11_init_84 rfl rfl (by first | exact ol_isq_r _ | exact ol_isq_q _ | exact ol_isq_n) ?_
  refine ol_bipush (v := 80) C dX11_init_85 (by decide) ?_
  refine ol_newI (r := 32) C wd_83 rfl (by decide) (by decide) (by decide) (by decide) (by decide) (by decide) dX11_init_87 (fun a_87 z_87 => ?_)
  have hx_87 := ol_is_up (r := 32) hx_79 z_87
  refine ol_pRF (k := 14) (r := some _) C rfl hx_87 rfl rfl wd_594 (.inl rfl) hin rfl (ol_nara _ _) dX11_init_89 ?_
  have hJ_87 := hJ_79.step hx.1 (fun i => by omega) (by decide) z_87
  refine ol_aload_n C dX11_init_92 rfl rfl (by first | exact ol_isq_r _ | exact ol_isq_q _ | exact ol_isq_n) ?_
  refine ol_bipush (v := 80) C dX11_init_93 (by decide) ?_
  refine ol_newI (r := 33) C wd_83 rfl (by decide) (by decide) (by decide) (by decide) (by decide) (by decide) dX11_init_95 (fun a_95 z_95 => ?_)
  have hx_95 := ol_is_up (r := 33) hx_87 z_95
  refine ol_pRF (k := 15) (r := some _) C rfl hx_95 rfl rfl wd_595 (.inl rfl) hin rfl (ol_nara _ _) dX11_init_97 ?_
  have hJ_95 := hJ_87.step hx.1 (fun i => by omega) (by decide) z_95
  refine ol_aload_n C dX11_init_100 rfl rfl (by first | exact ol_isq_r _ | exact ol_isq_q _ | exact ol_isq_n) ?_
  refine ol_bipush (v := 80) C dX11_init_101 (by decide) ?_
  refine ol_newI (r := 34) C wd_83 rfl (by decide) (by decide) (by decide) (by decide) (by decide) (by decide) dX11_init_103 (fun a_103 z_103 => ?_)
  have hx_103 := ol_is_up (r := 34) hx_95 z_103
  refine ol_pRF (k := 16) (r := some _) C rfl hx_103 rfl rfl wd_596 (.inl rfl) hin rfl (ol_nara _ _) dX11_init_105 ?_
  have hJ_103 := hJ_95.step hx.1 (fun i => by omega) (by decide) z_103
  refine ol_aload_n C dX11_init_108 rfl rfl (by first | exact ol_isq_r _ | exact ol_isq_q _ | exact ol_isq_n) ?_
  refine ol_bipush (v := 82) C dX11_init_109 (by decide) ?_
  refine ol_newI (r := 35) C wd_83 rfl (by decide) (by decide) (by decide) (by decide) (by decide) (by decide) dX11_init_111 (fun a_111 z_111 => ?_)
  have hx_111 := ol_is_up (r := 35) hx_103 z_111
  refine ol_pRF (k := 17) (r := some _) C rfl hx_111 rfl rfl wd_597 (.inl rfl) hin rfl (ol_nara _ _) dX11_init_113 ?_
  have hJ_111 := hJ_103.step hx.1 (fun i => by omega) (by decide) z_111
  refine ol_aload_n C dX11_init_116 rfl rfl (by first | exact ol_isq_r _ | exact ol_isq_q _ | exact ol_isq_n) ?_
  refine ol_iconst (v := 2) C dX11_init_117 (by decide) ?_
  refine ol_newI (r := 36) C wd_83 rfl (by decide) (by decide) (by decide) (by decide) (by decide) (by decide) dX11_init_118 (fun a_118 z_118 => ?_)
  have hx_118 := ol_is_up (r := 36) hx_111 z_118
  refine ol_pRF (k := 18) (r := some _) C rfl hx_118 rfl rfl wd_598 (.inl rfl) hin rfl (ol_nara _ _) dX11_init_120 ?_
  have hJ_118 := hJ_111.step hx.1 (fun i => by omega) (by decide) z_118
  refine ol_aload_n C dX11_init_123 rfl rfl (by first | exact ol_isq_r _ | exact ol_isq_q _ | exact ol_isq_n) ?_
  refine ol_sipush (v := 480) C dX11_init_124 (by decide) ?_
  refine ol_newI (r := 37) C wd_83 rfl (by decide) (by decide) (by decide) (by decide) (by decide) (by decide) dX11_init_127 (fun a_127 z_127 => ?_)
  have hx_127 := ol_is_up (r := 37) hx_118 z_127
  refine ol_pRF (k := 19) (r := some _) C rfl hx_127 rfl rfl wd_599 (.inl rfl) hin rfl (ol_nara _ _) dX11_init_129 ?_
  have hJ_127 := hJ_118.step hx.1 (fun i => by omega) (by decide) z_127
  refine ol_aload_n C dX11_init_132 rfl rfl (by first | exact ol_isq_r _ | exact ol_isq_q _ | exact ol_isq_n) ?_
  refine ol_sipush (v := 480) C dX11_init_133 (by decide) ?_
  refine ol_newI (r := 38) C wd_83 rfl (by decide) (by decide) (by decide) (by decide) (by decide) (by decide) dX11_init_136 (fun a_136 z_136 => ?_)
  have hx_136 := ol_is_up (r := 38) hx_127 z_136
  refine ol_pRF (k := 20) (r := some _) C rfl hx_136 rfl rfl wd_600 (.inl rfl) hin rfl (ol_nara _ _) dX11_init_138 ?_
  have hJ_136 := hJ_127.step hx.1 (fun i => by omega) (by decide) z_136
  refine ol_aload_n C dX11_init_141 rfl rfl (by first | exact ol_isq_r _ | exact ol_isq_q _ | exact ol_isq_n) ?_
  refine ol_sipush (v := 480) C dX11_init_142 (by decide) ?_
  refine ol_newZ (r := 39) C wd_84 rfl (by decide) (by decide) (by decide) (by decide) (by decide) (by decide) dX11_init_145 (fun a_145 z_145 => ?_)
  have hx_145 := ol_is_up (r := 39) hx_136 z_145
  refine ol_pRF (k := 21) (r := some _) C rfl hx_145 rfl rfl wd_601 (.inl rfl) hin rfl (ol_nara _ _) dX11_init_147 ?_
  have hJ_145 := hJ_136.step hx.1 (fun i => by omega) (by decide) z_145
  refine ol_aload_n C dX11_init_150 rfl rfl (by first | exact ol_isq_r _ | exact ol_isq_q _ | exact ol_isq_n) ?_
  refine ol_iconst (v := 2) C dX11_init_151 (by decide) ?_
  refine ol_newI (r := 40) C wd_83 rfl (by decide) (by decide) (by decide) (by decide) (by decide) (by decide) dX11_init_152 (fun a_152 z_152 => ?_)
  have hx_152 := ol_is_up (r := 40) hx_145 z_152
  refine ol_pRF (k := 22) (r := some _) C rfl hx_152 rfl rfl wd_602 (.inl rfl) hin rfl (ol_nara _ _) dX11_init_154 ?_
  have hJ_152 := hJ_145.step hx.1 (fun i => by omega) (by decide) z_152
  refine ol_aload_n C dX11_init_157 rfl rfl (by first | exact ol_isq_r _ | exact ol_isq_q _ | exact ol_isq_n) ?_
  refine ol_bipush (v := 40) C dX11_init_158 (by decide) ?_
  refine ol_newI (r := 41) C wd_83 rfl (by decide) (by decide) (by decide) (by decide) (by decide) (by decide) dX11_init_160 (fun a_160 z_160 => ?_)
  have hx_160 := ol_is_up (r := 41) hx_152 z_160
  refine ol_pRF (k := 27) (r := some _) C rfl hx_160 rfl rfl wd_607 (.inl rfl) hin rfl (ol_nara _ _) dX11_init_162 ?_
  have hJ_160 := hJ_152.step hx.1 (fun i => by omega) (by decide) z_160
  refine ol_aload_n C dX11_init_165 rfl rfl (by first | exact ol_isq_r _ | exact ol_isq_q _ | exact ol_isq_n) ?_
  refine ol_bipush (v := 40) C dX11_init_166 (by decide) ?_
  refine ol_newI (r := 42) C wd_83 rfl (by decide) (by decide) (by decide) (by decide) (by decide) (by decide) dX11_init_168 (fun a_168 z_168 => ?_)
  have hx_168 := ol_is_up (r := 42) hx_160 z_168
  refine ol_pRF (k := 28) (r := some _) C rfl hx_168 rfl rfl wd_608 (.inl rfl) hin rfl (ol_nara _ _) dX11_init_170 ?_
  have hJ_168 := hJ_160.step hx.1 (fun i => by omega) (by decide) z_168
  refine ol_aload_n C dX11_init_173 rfl rfl (by first | exact ol_isq_r _ | exact ol_isq_q _ | exact ol_isq_n) ?_
  refine ol_callV C (mm_beginAll l D cA (hJ_168.L hr hX) (w := 0) (show _ = nI 0 from by rw [show ol_adM x _ ad 10 = x from rfl, (hJ_168.2 x hx.1).2.1]; exact hz) (by decide)) hx_168.1 hx_168.2 rfl wd_579 wd_4 wd_576 wd_578 wq_11 mh_X11_beginAll (by decide) rfl (by first | exact Nat.le_of_ble_eq_true rfl | simp [ol_rfc, Value.category]) dX11_init_174 (ol_xv ?_)
  exact ol_vret C hret hlk (by decide) (by decide) dX11_init_177 ⟨rfl, _, ol_adM_X, rfl, hJ_168.L hr hX, hJ_168.M0 hr hX hz⟩
