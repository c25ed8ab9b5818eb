section OLRM
variable {ro : Nat → Nat} {I I' I2 : Nat → Nat → Int32} {F F' F2 : Nat → Nat → Option Nat} {ad ta pa : Nat → Nat} {n : Nat} {So : Nat → Nat} {T : Nat → Nat → Int32} {P P' : Nat → Nat → Option Nat} {g h w : Nat} {b b' : ol_B} {ra rb rc fl : Int32}
theorem ol_MT.c10 (hT : ol_MT I ad n So T P) (hL : ol_L ro F ad) {k : Nat} (v : Int32) (hk : k ≠ 0) : ol_MT (ol_u2 I (ad 10) k v) ad n So T P := by
  have N : ∀ r ∈ [22, 23, 24, 25, 26, 27, 28], ol_u2 I (ad 10) k v (ad r) = I (ad r) := fun r hr => by
    have h3 : r ∈ ol_uq ∧ r ≠ 10 := by
      revert r
      decide
    exact ol_u2_a _ _ (hL.ne h3.1 (by decide) h3.2)
  refine ⟨by rw [ol_u2_k _ _ (Ne.symm hk)]; exact hT.1, ?_⟩
  rw [N 22 (by decide), N 23 (by decide), N 24 (by decide), N 25 (by decide), N 26 (by decide), N 27 (by decide), N 28 (by decide)]
  exact hT.2
theorem ol_MG.c10 {s kc kf : Nat} (hG : ol_MG (ol_vf I ad) s b kc kf) (hL : ol_L ro F ad) (k : Nat) (v : Int32) : ol_MG (ol_vf (ol_u2 I (ad 10) k v) ad) s b kc kf := by
  refine hG.congr (fun r hr => ?_)
  have h3 : r ∈ ol_uq ∧ r ≠ 10 := by
    revert r
    decide
  exact ol_u2_a _ _ (hL.ne h3.1 (by decide) h3.2)
theorem ol_MR.loaded (hM : ol_MR I ad n So T P w b ra rb rc fl) (hL : ol_L ro F ad) (hI : ol_LI ad (1 - w) n So T P (ol_u2 I (ad 10) 26 0) I2 b' (b'.2.1 0 0) (b'.2.1 0 0 + 1)) (xa xb : Int32) : ol_MR (ol_u2 I2 (ad 10) 12 (nI (1 - w))) ad n So (va_up T 4 b'.1) P (1 - w) b' xa xb 0 fl ∧ ol_mo ad I (ol_u2 I2 (ad 10) 12 (nI (1 - w))) := by
  obtain ⟨hT, hG, hf⟩ := hI
  have hw := hM.2.2.1
  refine ⟨⟨hT.c10 hL _ (by decide), ol_u2_s _ _ _ _, by omega, ?_, fun _ => hG.c10 hL 12 _, ?_, ?_, fun q => absurd rfl q⟩, (((ol_mo_rf ad I).up 26 0 (by decide)).trans hf.mo).up 12 _ (by decide)⟩
  · rw [ol_u2_a _ _ (hL.ne (by decide) (by decide) (by decide))]
    exact hG.1
  · rw [ol_u2_k _ _ (by decide), hf.m10 hL (by decide) (by decide), ol_u2_k _ _ (by decide)]
    exact hM.2.2.2.2.2.1
  · rw [ol_u2_k _ _ (by decide), hf.m10 hL (by decide) (by decide), ol_u2_s]
theorem ol_MR.failed (hM : ol_MR I ad n So T P w b ra rb rc fl) (hW : ol_GW n b) (hL : ol_L ro F ad) {kc kf : Nat} (hI : ol_LI ad (1 - w) n So T P (ol_u2 I (ad 10) 26 0) I2 b' kc kf) (xa xb xc : Int32) : ol_MR (ol_rfu I2 ad xa xb xc) ad n So (va_up T 4 b'.1) P w b xa xb xc (fl + 1) ∧ ol_mo ad I (ol_rfu I2 ad xa xb xc) := by
  obtain ⟨hT, hG, hf⟩ := hI
  have hw := hM.2.2.1
  have w1 := hW.1
  have w4 := hW.2.2.2.1
  have R : ∀ {r k : Nat}, r ∈ [31, 32, 33, 34, 35, 36, 37, 38, 39, 40] → ((r = 31 ∨ r = 36 ∨ r = 40 → k ≠ 1 - w) ∧ (r = 32 ∨ r = 33 ∨ r = 34 → ¬ (40 * (1 - w) ≤ k ∧ k < 40 * (1 - w) + 40)) ∧ (r = 35 → ¬ (41 * (1 - w) ≤ k ∧ k < 41 * (1 - w) + 41)) ∧ (r = 37 ∨ r = 38 ∨ r = 39 → ¬ (240 * (1 - w) ≤ k ∧ k < 240 * (1 - w) + 240))) → I2 (ad r) k = I (ad r) k := by
    intro r k hr hk
    have h3 : r ∈ ol_uq ∧ r ≠ 10 := by
      clear hk
      revert r
      decide
    rw [hf.row hL hr hk, ol_u2_a _ _ (hL.ne h3.1 (by decide) h3.2)]
  have e23 : I2 (ad 10) 23 = fl := by
    rw [hf.m10 hL (by decide) (by decide), ol_u2_k _ _ (by decide)]
    exact hM.2.2.2.2.2.1
  have e12 : I2 (ad 10) 12 = nI w := by
    rw [hf.m10 hL (by decide) (by decide), ol_u2_k _ _ (by decide)]
    exact hM.2.1
  have U : ∀ r ∈ ol_uq, r ≠ 10 → ol_rfu I2 ad xa xb xc (ad r) = I2 (ad r) := fun r hr h1 => by
    have := hL.ne hr (show 10 ∈ ol_uq by decide) h1
    unfold ol_rfu
    rw [ol_u2_a _ _ this, ol_u2_a _ _ this, ol_u2_a _ _ this, ol_u2_a _ _ this]
  have hG2 : b.2.1 0 0 ≠ 0 → ol_MG (ol_vf I2 ad) w b (b.2.1 0 0) (b.2.1 0 0 + 1) := fun h0 => by
    obtain ⟨a1, a2, a3, a4, a5, a6, a7, a8⟩ := hM.2.2.2.2.1 h0
    refine ⟨?_, ?_, ?_, fun k hk => ?_, fun t ht => ?_, fun k hk => ?_, fun k hk => ?_, fun a ha => ?_⟩
    · exact (R (r := 31) (by decide) (by omega)).trans a1
    · exact (R (r := 36) (by decide) (by omega)).trans a2
    · exact (R (r := 40) (by decide) (by omega)).trans a3
    · exact (R (r := 32) (by decide) (by omega)).trans (a4 k hk)
    · exact (R (r := 33) (by decide) (by omega)).trans (a5 t ht)
    · exact (R (r := 34) (by decide) (by omega)).trans (a6 k hk)
    · exact (R (r := 35) (by decide) (by omega)).trans (a7 k hk)
    · exact ⟨(R (r := 37) (by decide) (by omega)).trans (a8 a ha).1, (R (r := 38) (by decide) (by omega)).trans (a8 a ha).2.1, (R (r := 39) (by decide) (by omega)).trans (a8 a ha).2.2⟩
  have mo : ol_mo ad I (ol_rfu I2 ad xa xb xc) := (((((((ol_mo_rf ad I).up 26 0 (by decide)).trans hf.mo).up 24 xa (by decide)).up 25 xb (by decide)).up 26 xc (by decide))).up 23 _ (by decide)
  refine ⟨⟨?_, ?_, hw, ?_, fun h0 => (hG2 h0).congr (fun r hr => ?_), ?_, ?_, fun _ => ⟨?_, ?_⟩⟩, mo⟩
  · unfold ol_rfu
    exact (((hT.c10 hL _ (by decide)).c10 hL _ (by decide)).c10 hL _ (by decide)).c10 hL _ (by decide)
  · unfold ol_rfu
    rw [ol_u2_k _ _ (by decide), ol_u2_k _ _ (by decide), ol_u2_k _ _ (by decide), ol_u2_k _ _ (by decide)]
    exact e12
  · rw [U 31 (by decide) (by decide)]
    exact (R (r := 31) (by decide) (by omega)).trans hM.2.2.2.1
  · exact U r (by revert r; decide) (by revert r; decide)
  · unfold ol_rfu
    rw [ol_u2_s, e23]
  · unfold ol_rfu
    rw [ol_u2_k _ _ (by decide), ol_u2_s]
  · unfold ol_rfu
    rw [ol_u2_k _ _ (by decide), ol_u2_k _ _ (by decide), ol_u2_k _ _ (by decide), ol_u2_s]
  · unfold ol_rfu
    rw [ol_u2_k _ _ (by decide), ol_u2_k _ _ (by decide), ol_u2_s]
/-! an empty graph, clear, the start -/
theorem ol_XG_e {f : Nat → Nat → Int32} {ph : Nat → Option Nat} (h9 : ∀ k, 9 ≤ k → k ≤ 11 → f 0 k = 0) (h2 : ∀ t, t < 40 → f 2 t = -1000009) (h4 : f 4 0 = 0) : ol_XG f ph ta (sp_b0 T) 0 1 := by
  refine ⟨h9 9 (by decide) (by decide), h9 10 (by decide) (by decide), h9 11 (by decide) (by decide), fun k hk => absurd hk (Nat.not_lt_zero k), h2, fun k hk => absurd hk (Nat.not_lt_zero k), fun k hk => ?_, fun a ha => absurd ha (Nat.not_lt_zero a)⟩
  have : k = 0 := by omega
  subst this
  exact h4
theorem ol_XR.clear (hX : ol_XR ro I F ad ta pa n So T P g h b ra rb rc fl) (hL : ol_L ro F ad) : ol_XR ro (ol_u2 (ol_xr (ol_me (ol_u2 I (ad 1) 1 0) ad g) ad (-1000009) (-1000009) 0) (ad 1) 7 0) F ad ta pa 0 So T P g h (sp_b0 T) (-1000009) (-1000009) 0 0 ∧ ol_mk ad I (ol_u2 (ol_xr (ol_me (ol_u2 I (ad 1) 1 0) ad g) ad (-1000009) (-1000009) 0) (ad 1) 7 0) := by
  have g0 : ad g ≠ ad 1 := hL.ne (ol_gu (j := 0) hX.hg (by decide)) (by decide) (by rcases ol_5060 hX.hg with rfl | rfl <;> decide)
  have g2 : ad (g + 2) ≠ ad 1 := hL.ne (ol_gu hX.hg (by decide)) (by decide) (by rcases ol_5060 hX.hg with rfl | rfl <;> decide)
  have N : ∀ {i j : Nat}, i ≤ 9 → j ≤ 9 → i ≠ j → ad (g + i) ≠ ad (g + j) := fun hi hj h => hL.ne (ol_gu hX.hg hi) (ol_gu hX.hg hj) (by omega)
  have O : ∀ c, c ≠ ad 1 → ol_u2 (ol_xr (ol_me (ol_u2 I (ad 1) 1 0) ad g) ad (-1000009) (-1000009) 0) (ad 1) 7 0 c = ol_me (ol_u2 I (ad 1) 1 0) ad g c := fun c hc => by rw [ol_u2_a _ _ hc, ol_xr_o c hc]
  have K : ∀ c, c ≠ ad 1 → c ≠ ad g → c ≠ ad (g + 2) → ol_u2 (ol_xr (ol_me (ol_u2 I (ad 1) 1 0) ad g) ad (-1000009) (-1000009) 0) (ad 1) 7 0 c = I c := fun c h1 h2 h3 => by
    rw [O c h1]
    unfold ol_me
    rw [ol_u2_a _ _ h2, ol_u2_a _ _ h2, ol_u2_a _ _ h2, va_up_ne _ _ h3, ol_u2_a _ _ h1]
  have g4 := K (ad (g + 4)) (hL.ne (ol_gu hX.hg (by decide)) (by decide) (by rcases ol_5060 hX.hg with rfl | rfl <;> decide)) (N (i := 4) (j := 0) (by decide) (by decide) (by decide)) (N (i := 4) (j := 2) (by decide) (by decide) (by decide))
  have h4 := K (ad (h + 4)) (hL.ne (ol_gu hX.hh (by decide)) (by decide) (by rcases ol_5060 hX.hh with rfl | rfl <;> decide)) (hL.ne (ol_gu hX.hh (by decide)) (ol_gu (j := 0) hX.hg (by decide)) (Ne.symm (hX.gh (i := 0) (by decide) (by decide)))) (hL.ne (ol_gu hX.hh (by decide)) (ol_gu hX.hg (by decide)) (Ne.symm (hX.gh (by decide) (by decide))))
  refine ⟨⟨hX.1, ⟨?_, fun t ht => absurd ht (Nat.not_lt_zero t), fun t s ht => absurd ht (Nat.not_lt_zero t)⟩, hX.2.2.1, hX.2.2.2.1, ol_XG_e (fun k h9 h11 => ?_) (fun t ht => ?_) ?_, by rw [g4]; exact hX.2.2.2.2.2.1, by rw [h4]; exact hX.2.2.2.2.2.2.1, ?_, ?_, ?_, ?_⟩, fun r hr => ?_⟩
  · rw [ol_u2_k _ _ (by decide), ol_xr_k (by decide) (by decide) (by decide)]
    unfold ol_me
    rw [ol_u2_a _ _ (Ne.symm g0), ol_u2_a _ _ (Ne.symm g0), ol_u2_a _ _ (Ne.symm g0), va_up_ne _ _ (Ne.symm g2), ol_u2_s]
    rfl
  · show ol_u2 (ol_xr (ol_me (ol_u2 I (ad 1) 1 0) ad g) ad (-1000009) (-1000009) 0) (ad 1) 7 0 (ad g) k = 0
    rw [O _ g0]
    unfold ol_me
    have : k = 9 ∨ k = 10 ∨ k = 11 := by omega
    rcases this with rfl | rfl | rfl
    · rw [ol_u2_k _ _ (by decide), ol_u2_k _ _ (by decide), ol_u2_s]
    · rw [ol_u2_k _ _ (by decide), ol_u2_s]
    · rw [ol_u2_s]
  · show ol_u2 (ol_xr (ol_me (ol_u2 I (ad 1) 1 0) ad g) ad (-1000009) (-1000009) 0) (ad 1) 7 0 (ad (g + 2)) t = -1000009
    have d20 : ad (g + 2) ≠ ad g := N (i := 2) (j := 0) (by decide) (by decide) (by decide)
    rw [O _ g2]
    unfold ol_me
    rw [ol_u2_a _ _ d20, ol_u2_a _ _ d20, ol_u2_a _ _ d20, va_up_self, ol_fi_lt ht]
  · show ol_u2 (ol_xr (ol_me (ol_u2 I (ad 1) 1 0) ad g) ad (-1000009) (-1000009) 0) (ad 1) 7 0 (ad (g + 4)) 0 = 0
    rw [g4]
    exact hX.2.2.2.2.2.1
  · rw [ol_u2_k _ _ (by decide)]
    exact ol_xr_4.1
  · rw [ol_u2_k _ _ (by decide)]
    exact ol_xr_4.2.1
  · rw [ol_u2_k _ _ (by decide)]
    exact ol_xr_4.2.2
  · exact ol_u2_s _ _ _ _
  · have hu := ol_uM_uq r hr
    have h3 : r < 50 ∧ r ≠ 1 := by
      revert r
      decide
    exact K _ (hL.ne hu (by decide) h3.2) (hL.ne hu (ol_gu (j := 0) hX.hg (by decide)) (by rcases ol_5060 hX.hg with rfl | rfl <;> omega)) (hL.ne hu (ol_gu hX.hg (by decide)) (by rcases ol_5060 hX.hg with rfl | rfl <;> omega))
theorem ol_MR.clear (hM : ol_MR I ad n So T P w b ra rb rc fl) (hL : ol_L ro F ad) (xa xb : Int32) : ol_MR (ol_u2 (ol_u2 (ol_u2 (ol_u2 I (ad 10) 0 0) (ad 31) w 0) (ad 10) 23 0) (ad 10) 26 0) ad 0 So T P w (sp_b0 T) xa xb 0 0 ∧ ol_mo ad I (ol_u2 (ol_u2 (ol_u2 (ol_u2 I (ad 10) 0 0) (ad 31) w 0) (ad 10) 23 0) (ad 10) 26 0) := by
  have n31 : ad 31 ≠ ad 10 := hL.ne (by decide) (by decide) (by decide)
  refine ⟨⟨⟨?_, fun t ht => absurd ht (Nat.not_lt_zero t)⟩, ?_, hM.2.2.1, ?_, fun q => absurd rfl q, ?_, ol_u2_s _ _ _ _, fun q => absurd rfl q⟩, ((((ol_mo_rf ad I).up 0 0 (by decide)).up w 0 (by decide)).up 23 0 (by decide)).up 26 0 (by decide)⟩
  · rw [ol_u2_k _ _ (by decide), ol_u2_k _ _ (by decide), ol_u2_a _ _ (Ne.symm n31), ol_u2_s]
    rfl
  · rw [ol_u2_k _ _ (by decide), ol_u2_k _ _ (by decide), ol_u2_a _ _ (Ne.symm n31), ol_u2_k _ _ (by decide)]
    exact hM.2.1
  · rw [ol_u2_a _ _ n31, ol_u2_a _ _ n31, ol_u2_s]
    rfl
  · rw [ol_u2_k _ _ (by decide), ol_u2_s]
/-- both are new -/
theorem ol_ST_0 {ro1 : Nat → Nat} {I1 : Nat → Nat → Int32} {F1 : Nat → Nat → Option Nat} {ad1 : Nat → Nat} {m : Nat} (h1 : ol_X0 ro1 I1 F1 ad1) (hL : ol_L ro F ad) (hM : ol_M0 I ad) (he : ∀ r ∈ ol_uX, ad r = ad1 r) (hf : ∀ r ∈ ol_uX, I (ad1 r) = I1 (ad1 r) ∧ F (ad1 r) = F1 (ad1 r)) : ol_ST ro I F ad := by
  obtain ⟨x1, x2, x3, x4, x5, x6, x7, x8, x9, x10, x11, x12⟩ := h1
  have E : ∀ r ∈ ol_uX, I (ad r) = I1 (ad1 r) ∧ F (ad r) = F1 (ad1 r) := fun r hr => by rw [he r hr]; exact hf r hr
  refine ⟨fun _ => 0, fun _ => 0, 0, fun _ => 0, fun _ _ => 0, fun _ _ => none, 50, 60, 0, sp_b0 (fun _ _ => 0), -1000009, -1000009, 0, 0, hL, ⟨Nat.zero_le _, fun t ht => absurd ht (Nat.not_lt_zero t)⟩, sp_b0_GW 0 _, ⟨Or.inl ⟨rfl, rfl⟩, ⟨?_, fun t ht => absurd ht (Nat.not_lt_zero t), fun t s ht => absurd ht (Nat.not_lt_zero t)⟩, ?_, ?_, ol_XG_e (fun k h9 h11 => ?_) (fun t ht => ?_) ?_, ?_, ?_, ?_, ?_, ?_, ?_⟩, ⟨⟨?_, fun t ht => absurd ht (Nat.not_lt_zero t)⟩, ?_, by decide, ?_, fun q => absurd rfl q, ?_, ?_, fun q => absurd rfl q⟩⟩
  · rw [(E 1 (by decide)).1]
    exact x4
  · rw [(E 1 (by decide)).2, he 50 (by decide)]
    exact x2
  · rw [(E 1 (by decide)).2, he 60 (by decide)]
    exact x3
  · show I (ad 50) k = 0
    rw [(E 50 (by decide)).1]
    exact x9 k h9 h11
  · show I (ad 52) t = -1000009
    rw [(E 52 (by decide)).1]
    exact x10 t ht
  · show I (ad 54) 0 = 0
    rw [(E 54 (by decide)).1]
    exact x11
  · show I (ad 54) 0 = 0
    rw [(E 54 (by decide)).1]
    exact x11
  · show I (ad 64) 0 = 0
    rw [(E 64 (by decide)).1]
    exact x12
  · rw [(E 1 (by decide)).1]
    exact x5
  · rw [(E 1 (by decide)).1]
    exact x6
  · rw [(E 1 (by decide)).1]
    exact x7
  · rw [(E 1 (by decide)).1]
    exact x8
  · exact hM.1
  · exact hM.2.1
  · exact hM.2.2.2.2
  · exact hM.2.2.1
  · exact hM.2.2.2.1
end OLRM
