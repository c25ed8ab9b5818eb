theorem ol_k_6 {i : Int32} : (¬ i < 0 ∧ ¬ 6 < i) ↔ ol_k 7 i := ol_k_m1 (n := 7) (by decide)
/-- what thing() does to the reference's rows: a new thing n of sort a1, key a2, V a3 -/
def ol_mth (I I' : Nat → Nat → Int32) (ad : Nat → Nat) (n : Nat) (a1 a2 a3 : Int32) : Prop :=
  I' (ad 10) = va_up (I (ad 10)) 0 (nI (n + 1)) ∧ I' (ad 22) = va_up (I (ad 22)) n a1 ∧ I' (ad 23) = va_up (I (ad 23)) n a2 ∧ I' (ad 24) = va_up (I (ad 24)) n a3 ∧ I' (ad 25) = va_up (I (ad 25)) n (-1000009) ∧ I' (ad 27) = va_up (I (ad 27)) n 0 ∧ I' (ad 28) = va_up (I (ad 28)) n 0 ∧
  (∀ j, j < 6 → I' (ad 26) (6 * n + j) = -1000009) ∧ (∀ j, j < 6 * n ∨ 6 * n + 6 ≤ j → I' (ad 26) j = I (ad 26) j) ∧ ∀ a, a ≠ ad 10 → a ≠ ad 22 → a ≠ ad 23 → a ≠ ad 24 → a ≠ ad 25 → a ≠ ad 26 → a ≠ ad 27 → a ≠ ad 28 → I' a = I a
theorem ol_u2_r {α : Type} (I : Nat → Nat → α) (a k : Nat) (v : α) : ol_u2 I a k v a = va_up (I a) k v := by unfold ol_u2; rw [va_up_self]
theorem ol_mth_of {ro : Nat → Nat} {F : Nat → Nat → Option Nat} {ad : Nat → Nat} (hL : ol_L ro F ad) {I I1 : Nat → Nat → Int32} {n : Nat} {a1 a2 a3 : Int32} (g1 : ∀ a, a ≠ ad 26 → I1 a = ol_u2 (ol_u2 (ol_u2 (ol_u2 I (ad 22) n a1) (ad 23) n a2) (ad 24) n a3) (ad 25) n (-1000009) a) (g2 : ∀ j, j < 6 → I1 (ad 26) (6 * n + j) = -1000009) (g3 : ∀ j, j < 6 * n ∨ 6 * n + 6 ≤ j → I1 (ad 26) j = ol_u2 (ol_u2 (ol_u2 (ol_u2 I (ad 22) n a1) (ad 23) n a2) (ad 24) n a3) (ad 25) n (-1000009) (ad 26) j) :
    ol_mth I (ol_u2 (ol_u2 (ol_u2 I1 (ad 27) n 0) (ad 28) n 0) (ad 10) 0 (nI (n + 1))) ad n a1 a2 a3 := by
  have ne : ∀ r q, r ∈ [10, 22, 23, 24, 25, 26, 27, 28] → q ∈ [10, 22, 23, 24, 25, 26, 27, 28] → r ≠ q → ad r ≠ ad q := by
    intro r q hr hq h
    have hs : ∀ z, z ∈ [10, 22, 23, 24, 25, 26, 27, 28] → z ∈ ol_uq := by decide
    exact hL.ne (hs r hr) (hs q hq) h
  have N : ∀ {r q : Nat}, r ∈ [10, 22, 23, 24, 25, 26, 27, 28] → q ∈ [10, 22, 23, 24, 25, 26, 27, 28] → r ≠ q → ad r ≠ ad q := fun a b c => ne _ _ a b c
  refine ⟨?_, ?_, ?_, ?_, ?_, ?_, ?_, ?_, ?_, ?_⟩
  · rw [ol_u2_r, ol_u2_a _ _ (N (by decide) (by decide) (by decide)), ol_u2_a _ _ (N (by decide) (by decide) (by decide)), g1 _ (N (by decide) (by decide) (by decide)), ol_u2_a _ _ (N (by decide) (by decide) (by decide)), ol_u2_a _ _ (N (by decide) (by decide) (by decide)), ol_u2_a _ _ (N (by decide) (by decide) (by decide)), ol_u2_a _ _ (N (by decide) (by decide) (by decide))]
  · rw [ol_u2_a _ _ (N (by decide) (by decide) (by decide)), ol_u2_a _ _ (N (by decide) (by decide) (by decide)), ol_u2_a _ _ (N (by decide) (by decide) (by decide)), g1 _ (N (by decide) (by decide) (by decide)), ol_u2_a _ _ (N (by decide) (by decide) (by decide)), ol_u2_a _ _ (N (by decide) (by decide) (by decide)), ol_u2_a _ _ (N (by decide) (by decide) (by decide)), ol_u2_r]
  · rw [ol_u2_a _ _ (N (by decide) (by decide) (by decide)), ol_u2_a _ _ (N (by decide) (by decide) (by decide)), ol_u2_a _ _ (N (by decide) (by decide) (by decide)), g1 _ (N (by decide) (by decide) (by decide)), ol_u2_a _ _ (N (by decide) (by decide) (by decide)), ol_u2_a _ _ (N (by decide) (by decide) (by decide)), ol_u2_r, ol_u2_a _ _ (N (by decide) (by decide) (by decide))]
  · rw [ol_u2_a _ _ (N (by decide) (by decide) (by decide)), ol_u2_a _ _ (N (by decide) (by decide) (by decide)), ol_u2_a _ _ (N (by decide) (by decide) (by decide)), g1 _ (N (by decide) (by decide) (by decide)), ol_u2_a _ _ (N (by decide) (by decide) (by decide)), ol_u2_r, ol_u2_a _ _ (N (by decide) (by decide) (by decide)), ol_u2_a _ _ (N (by decide) (by decide) (by decide))]
  · rw [ol_u2_a _ _ (N (by decide) (by decide) (by decide)), ol_u2_a _ _ (N (by decide) (by decide) (by decide)), ol_u2_a _ _ (N (by decide) (by decide) (by decide)), g1 _ (N (by decide) (by decide) (by decide)), ol_u2_r, ol_u2_a _ _ (N (by decide) (by decide) (by decide)), ol_u2_a _ _ (N (by decide) (by decide) (by decide)), ol_u2_a _ _ (N (by decide) (by decide) (by decide))]
  · rw [ol_u2_a _ _ (N (by decide) (by decide) (by decide)), ol_u2_a _ _ (N (by decide) (by decide) (by decide)), ol_u2_r, g1 _ (N (by decide) (by decide) (by decide)), ol_u2_a _ _ (N (by decide) (by decide) (by decide)), ol_u2_a _ _ (N (by decide) (by decide) (by decide)), ol_u2_a _ _ (N (by decide) (by decide) (by decide)), ol_u2_a _ _ (N (by decide) (by decide) (by decide))]
  · rw [ol_u2_a _ _ (N (by decide) (by decide) (by decide)), ol_u2_r, ol_u2_a _ _ (N (by decide) (by decide) (by decide)), g1 _ (N (by decide) (by decide) (by decide)), ol_u2_a _ _ (N (by decide) (by decide) (by decide)), ol_u2_a _ _ (N (by decide) (by decide) (by decide)), ol_u2_a _ _ (N (by decide) (by decide) (by decide)), ol_u2_a _ _ (N (by decide) (by decide) (by decide))]
  · intro j hj
    rw [ol_u2_a _ _ (N (by decide) (by decide) (by decide)), ol_u2_a _ _ (N (by decide) (by decide) (by decide)), ol_u2_a _ _ (N (by decide) (by decide) (by decide))]
    exact g2 j hj
  · intro j hj
    rw [ol_u2_a _ _ (N (by decide) (by decide) (by decide)), ol_u2_a _ _ (N (by decide) (by decide) (by decide)), ol_u2_a _ _ (N (by decide) (by decide) (by decide)), g3 j hj, ol_u2_a _ _ (N (by decide) (by decide) (by decide)), ol_u2_a _ _ (N (by decide) (by decide) (by decide)), ol_u2_a _ _ (N (by decide) (by decide) (by decide)), ol_u2_a _ _ (N (by decide) (by decide) (by decide))]
  · intro a h10 h22 h23 h24 h25 h26 h27 h28
    rw [ol_u2_a _ _ h10, ol_u2_a _ _ h28, ol_u2_a _ _ h27, g1 a h26, ol_u2_a _ _ h25, ol_u2_a _ _ h24, ol_u2_a _ _ h23, ol_u2_a _ _ h22]
theorem ol_ex_no {A : Prop} {B : Nat → Prop} {k : Nat} (h : ¬ B k) : (A ∧ ∃ i, i < k ∧ B i) ↔ (A ∧ ∃ i, i < k + 1 ∧ B i) := by
  constructor
  · rintro ⟨a, i, h1, h2⟩
    exact ⟨a, i, by omega, h2⟩
  · rintro ⟨a, i, h1, h2⟩
    refine ⟨a, i, ?_, h2⟩
    rcases Nat.lt_or_ge i k with q | q
    · exact q
    · have e : i = k := by omega
      subst e
      exact absurd h2 h
theorem ol_if_or {α : Type} (P : Prop) (a b : α) : ol_if P a b = a ∨ ol_if P a b = b := by
  by_cases h : P
  · exact Or.inl (ol_if_t h)
  · exact Or.inr (ol_if_f h)
theorem ol_le0 {x : Int32} (h : x = 0 ∨ x = 1 ∨ x = 2 ∨ x = 3 ∨ x = 4) : x ≤ 0 ↔ x = 0 := by rcases h with rfl | rfl | rfl | rfl | rfl <;> decide
theorem sp_k0 (So : Nat → Nat) (T : Nat → Nat → Int32) (t : Nat) : sp_kc So T t ≤ 0 ↔ sp_kc So T t = 0 := by
  refine ol_le0 ?_
  unfold sp_kc
  rcases ol_p_or (So t = 6 ∧ T 3 t = 0) with ⟨-, h⟩ | ⟨-, h⟩ <;> rw [h] <;> simp
theorem sp_v0 (So : Nat → Nat) (T : Nat → Nat → Int32) (t : Nat) : sp_vc So T t ≤ 0 ↔ sp_vc So T t = 0 := by
  refine ol_le0 ?_
  unfold sp_vc
  rcases ol_if_or (So t = 3 ∧ T 2 t = 0) (4 : Int32) 0 with h | h <;> rw [h] <;> simp
theorem sp_l0 (So : Nat → Nat) (T : Nat → Nat → Int32) (P : Nat → Nat → Option Nat) (t : Nat) : sp_lc So T P t ≤ 0 ↔ sp_lc So T P t = 0 := by
  refine ol_le0 ?_
  unfold sp_lc
  rcases ol_if_or (So t = 5) (ol_if (ol_k 6 (T 2 t)) (0 : Int32) 2) (ol_if (So t = 1 ∨ So t = 4) (ol_if (So t = 4 ∧ ∃ i, i < 6 ∧ ol_br So (P (1 + i) t)) 3 0) (ol_if (ol_br So (P 0 t)) 3 0)) with h | h <;> rw [h]
  · rcases ol_if_or (ol_k 6 (T 2 t)) (0 : Int32) 2 with h | h <;> rw [h] <;> simp
  · rcases ol_if_or (So t = 1 ∨ So t = 4) (ol_if (So t = 4 ∧ ∃ i, i < 6 ∧ ol_br So (P (1 + i) t)) (3 : Int32) 0) (ol_if (ol_br So (P 0 t)) 3 0) with h | h <;> rw [h]
    · rcases ol_if_or (So t = 4 ∧ ∃ i, i < 6 ∧ ol_br So (P (1 + i) t)) (3 : Int32) 0 with h | h <;> rw [h] <;> simp
    · rcases ol_if_or (ol_br So (P 0 t)) (3 : Int32) 0 with h | h <;> rw [h] <;> simp
/-- what tells() answers -/
noncomputable def sp_tl (n : Nat) (So : Nat → Nat) (T : Nat → Nat → Int32) (P : Nat → Nat → Option Nat) (t w : Int32) : Int32 :=
  ol_if (ol_k n t) (ol_if (ol_k 3 w) (ol_if (w = 0) (ol_if (sp_kc So T t.toNatClampNeg = 0) (T 1 t.toNatClampNeg) (-1000010 - sp_kc So T t.toNatClampNeg)) (ol_if (w = 1) (ol_if (sp_vc So T t.toNatClampNeg = 0) (sp_vv So T t.toNatClampNeg) (-1000010 - sp_vc So T t.toNatClampNeg)) (ol_if (So t.toNatClampNeg = 2) 2 (ol_if (sp_lc So T P t.toNatClampNeg = 0) (nI (sp_ln So P t.toNatClampNeg)) (-1000010 - sp_lc So T P t.toNatClampNeg))))) (-1000002)) (-1000001)
/-- what is() answers -/
noncomputable def sp_is (n : Nat) (So : Nat → Nat) (t f : Int32) : Int32 :=
  ol_if (ol_k n t) (ol_if (f = 0) (ol_p (¬ So t.toNatClampNeg = 2)) (ol_if (f = 1) (ol_p (So t.toNatClampNeg = 1 ∨ So t.toNatClampNeg = 4 ∨ So t.toNatClampNeg = 5)) (ol_if (f = 2) (ol_p (So t.toNatClampNeg = 2)) (-1000002)))) (-1000001)
theorem ol_k3_012 {w : Int32} (h : ol_k 3 w) : w = 0 ∨ w = 1 ∨ w = 2 := by
  obtain ⟨j, h1, h2, -⟩ := ol_k_ix h (by omega)
  have h3 : j = 0 ∨ j = 1 ∨ j = 2 := by omega
  rcases h3 with h | h | h
  · left; rw [h2, h]; rfl
  · right; left; rw [h2, h]; rfl
  · right; right; rw [h2, h]; rfl
