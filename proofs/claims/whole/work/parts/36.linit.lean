/-- nothing is loaded yet -/
def sp_b0 (T : Nat → Nat → Int32) : ol_B := (T 4, fun _ _ => 0, fun _ _ => 0, fun _ => none)
theorem ol_cn_none : ∀ n, ol_cn (fun _ => none) n = 0
  | 0 => rfl
  | n + 1 => by
    unfold ol_cn
    rw [ol_cn_none n]
    rfl
theorem sp_b0_BW (n : Nat) (So : Nat → Nat) (T : Nat → Nat → Int32) : ol_BW n So (sp_b0 T) 0 :=
  ⟨(ol_cn_none n).symm, fun k hk => absurd hk (Nat.not_lt_zero k), fun t k h => (by cases h), Nat.le_refl _, fun a ha => absurd ha (Nat.not_lt_zero a)⟩
theorem va_up_id {α : Type} (T : Nat → α) (k : Nat) : va_up T k (T k) = T := by
  funext j
  by_cases e : j = k
  · subst e
    exact va_up_self _ _ _
  · exact va_up_ne _ _ e
theorem ol_LI_init {ro : Nat → Nat} {F : Nat → Nat → Option Nat} {ad : Nat → Nat} (hL : ol_L ro F ad) {g n : Nat} {So : Nat → Nat} {T : Nat → Nat → Int32} {P : Nat → Nat → Option Nat} {I I3 : Nat → Nat → Int32} (hT : ol_MT I ad n So T P) (h1 : ∀ a, a ≠ ad 33 → I3 a = ol_u2 (ol_u2 (ol_u2 (ol_u2 I (ad 10) 26 0) (ad 31) g 0) (ad 36) g 0) (ad 40) g 0 a) (h2 : ∀ j, j < 40 → I3 (ad 33) (40 * g + j) = -1) (h3 : ∀ j, ¬ (40 * g ≤ j ∧ j < 40 * g + 40) → I3 (ad 33) j = ol_u2 (ol_u2 (ol_u2 (ol_u2 I (ad 10) 26 0) (ad 31) g 0) (ad 36) g 0) (ad 40) g 0 (ad 33) j) : ol_LI ad g n So T P (ol_u2 I (ad 10) 26 0) I3 (sp_b0 T) 0 0 := by
  have N : ∀ {r q : Nat}, r ∈ ol_uq → q ∈ ol_uq → r ≠ q → ad r ≠ ad q := fun a b c => hL.ne a b c
  have hfm : ol_fm ad g (ol_u2 I (ad 10) 26 0) I3 := by
    intro a k hk
    by_cases e : a = ad 33
    · subst e
      rw [h3 k (fun q => hk (Or.inr (Or.inr (Or.inr (Or.inr (Or.inr (Or.inr (Or.inl ⟨rfl, q.1, q.2⟩))))))))]
      rw [ol_u2_a _ _ (N (by decide) (by decide) (by decide)), ol_u2_a _ _ (N (by decide) (by decide) (by decide)), ol_u2_a _ _ (N (by decide) (by decide) (by decide))]
    · rw [h1 a e]
      exact (((ol_fm_rf ad g (ol_u2 I (ad 10) 26 0)).up 0 (ol_tg_nodes ad g)).up 0 (ol_tg_arcs ad g)).up 0 (ol_tg_holes ad g) a k hk
  refine ⟨?_, ?_, hfm⟩
  · show ol_MT I3 ad n So (va_up T 4 (T 4)) P
    rw [va_up_id]
    have hr : ∀ r, r ∈ [22, 23, 24, 25, 26, 27, 28] → I3 (ad r) = I (ad r) := by
      intro r hr
      have h4 : r ∈ ol_uq ∧ r ≠ 33 ∧ r ≠ 40 ∧ r ≠ 36 ∧ r ≠ 31 ∧ r ≠ 10 := by
        revert r
        decide
      rw [h1 _ (N h4.1 (by decide) h4.2.1), ol_u2_a _ _ (N h4.1 (by decide) h4.2.2.1), ol_u2_a _ _ (N h4.1 (by decide) h4.2.2.2.1), ol_u2_a _ _ (N h4.1 (by decide) h4.2.2.2.2.1), ol_u2_a _ _ (N h4.1 (by decide) h4.2.2.2.2.2)]
    have h0 : I3 (ad 10) 0 = I (ad 10) 0 := by
      rw [h1 _ (N (by decide) (by decide) (by decide)), ol_u2_a _ _ (N (by decide) (by decide) (by decide)), ol_u2_a _ _ (N (by decide) (by decide) (by decide)), ol_u2_a _ _ (N (by decide) (by decide) (by decide)), ol_u2_k _ _ (by decide)]
    unfold ol_MT
    rw [h0, hr 22 (by decide), hr 23 (by decide), hr 24 (by decide), hr 25 (by decide), hr 26 (by decide), hr 27 (by decide), hr 28 (by decide)]
    exact hT
  · refine ⟨?_, ?_, ?_, fun k hk => absurd hk (Nat.not_lt_zero k), h2, fun k hk => absurd hk (Nat.not_lt_zero k), fun k hk => absurd hk (Nat.not_lt_zero k), fun a ha => absurd ha (Nat.not_lt_zero a)⟩
    · show I3 (ad 31) g = nI 0
      rw [h1 _ (N (by decide) (by decide) (by decide)), ol_u2_a _ _ (N (by decide) (by decide) (by decide)), ol_u2_a _ _ (N (by decide) (by decide) (by decide)), ol_u2_s]
      rfl
    · show I3 (ad 36) g = nI 0
      rw [h1 _ (N (by decide) (by decide) (by decide)), ol_u2_a _ _ (N (by decide) (by decide) (by decide)), ol_u2_s]
      rfl
    · show I3 (ad 40) g = nI 0
      rw [h1 _ (N (by decide) (by decide) (by decide)), ol_u2_s]
      rfl
/-- what loading from thing j gives -/
noncomputable def sp_R (So : Nat → Nat) (T : Nat → Nat → Int32) (P : Nat → Nat → Option Nat) (byK : Prop) (j : Nat) : ol_B × ol_Fl := sp_ld So T P byK 41 0 (sp_find (sp_b0 T) j)
