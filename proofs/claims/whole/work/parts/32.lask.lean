section OLLJ
variable {ro : Nat → Nat} {F : Nat → Nat → Option Nat} {ad : Nat → Nat} {g n : Nat} {So : Nat → Nat} {T : Nat → Nat → Int32} {P : Nat → Nat → Option Nat} {I0 I : Nat → Nat → Int32} {b : ol_B} {kc kf : Nat}
theorem ol_LI.col (hL : ol_L ro F ad) (h : ol_LI ad g n So T P I0 I b kc kf) (hk : kc < 40) (x : Int32) : ol_LI ad g n So T P I0 (ol_u2 I (ad 34) (40 * g + kc) x) (b.1, b.2.1, ol_u2 b.2.2.1 0 kc x, b.2.2.2) (kc + 1) kf := by
  refine ⟨ol_MT.off hL h.1 _ _ (by decide) (by decide), ol_MG.vu hL (by decide) ?_, h.2.2.up _ (ol_tg_34 ad g hk)⟩
  obtain ⟨a1, a2, a3, a4, a5, a6, a7, a8⟩ := h.2.1
  unfold ol_MG
  dsimp only
  rw [ol_u2_a _ _ (show 31 ≠ 34 by decide), ol_u2_a _ _ (show 32 ≠ 34 by decide), ol_u2_a _ _ (show 33 ≠ 34 by decide), ol_u2_a _ _ (show 35 ≠ 34 by decide), ol_u2_a _ _ (show 36 ≠ 34 by decide), ol_u2_a _ _ (show 37 ≠ 34 by decide), ol_u2_a _ _ (show 38 ≠ 34 by decide), ol_u2_a _ _ (show 39 ≠ 34 by decide), ol_u2_a _ _ (show 40 ≠ 34 by decide), ol_u2_a _ _ (show 1 ≠ 0 by decide), ol_u2_a _ _ (show 2 ≠ 0 by decide)]
  refine ⟨a1, a2, a3, a4, a5, ?_, a7, a8⟩
  intro k hk2
  by_cases e : k = kc
  · subst e
    rw [ol_u2_s, ol_u2_s]
  · rw [ol_u2_k _ _ (by omega), ol_u2_k _ _ e]
    exact a6 k (by omega)
theorem ol_LI.fa (hL : ol_L ro F ad) (h : ol_LI ad g n So T P I0 I b kc kf) (hk : kf < 41) (hx : b.2.1 2 kf = b.2.1 0 1) : ol_LI ad g n So T P I0 (ol_u2 I (ad 35) (41 * g + kf) (nI (b.2.1 0 1))) b kc (kf + 1) := by
  refine ⟨ol_MT.off hL h.1 _ _ (by decide) (by decide), ol_MG.vu hL (by decide) ?_, h.2.2.up _ (ol_tg_35 ad g hk)⟩
  obtain ⟨a1, a2, a3, a4, a5, a6, a7, a8⟩ := h.2.1
  unfold ol_MG
  rw [ol_u2_a _ _ (show 31 ≠ 35 by decide), ol_u2_a _ _ (show 32 ≠ 35 by decide), ol_u2_a _ _ (show 33 ≠ 35 by decide), ol_u2_a _ _ (show 34 ≠ 35 by decide), ol_u2_a _ _ (show 36 ≠ 35 by decide), ol_u2_a _ _ (show 37 ≠ 35 by decide), ol_u2_a _ _ (show 38 ≠ 35 by decide), ol_u2_a _ _ (show 39 ≠ 35 by decide), ol_u2_a _ _ (show 40 ≠ 35 by decide)]
  refine ⟨a1, a2, a3, a4, a5, a6, ?_, a8⟩
  intro k hk2
  by_cases e : k = kf
  · subst e
    rw [ol_u2_s, hx]
  · rw [ol_u2_k _ _ (by omega)]
    exact a7 k (by omega)
theorem ol_LI.fa2 (h : ol_LI ad g n So T P I0 I b kc kf) (x : Nat) {j : Nat} (hj : kf ≤ j) : ol_LI ad g n So T P I0 I (b.1, ol_u2 b.2.1 2 j x, b.2.2) kc kf := by
  refine ⟨h.1, ?_, h.2.2⟩
  obtain ⟨a1, a2, a3, a4, a5, a6, a7, a8⟩ := h.2.1
  unfold ol_MG
  dsimp only
  rw [ol_u2_a _ _ (show 0 ≠ 2 by decide), ol_u2_a _ _ (show 1 ≠ 2 by decide), ol_u2_a _ _ (show 3 ≠ 2 by decide)]
  exact ⟨a1, a2, a3, a4, a5, a6, fun k hk => by rw [ol_u2_k _ _ (by omega)]; exact a7 k hk, a8⟩
end OLLJ
/-- what came out of asking, as the reference holds it -/
def ol_ao (ad : Nat → Nat) (g n : Nat) (So : Nat → Nat) (T : Nat → Nat → Int32) (P : Nat → Nat → Option Nat) (I0 : Nat → Nat → Int32) (R : ol_B × ol_Fl) (k : Nat) (K : Nat → Int32) (v : Int32) (I' : Nat → Nat → Int32) : Prop :=
  (R.2 = none ∧ v = 0 ∧ ol_LI ad g n So T P I0 I' R.1 (k + 1) (k + 1) ∧ I' (ad 41) = K) ∨ ∃ (u : Nat) (o : Option Nat) (z : Int32) (I2 : Nat → Nat → Int32) (kc kf : Nat), R.2 = some (u, o, z) ∧ (z = 1 ∨ z = 2 ∨ z = 3 ∨ z = 4 ∨ z = 6) ∧ v = -1000010 - z ∧ ol_LI ad g n So T P I0 I2 R.1 kc kf ∧ I' = ol_rfu I2 ad (nI u) (ol_e o) z
theorem sp_vc_r {So : Nat → Nat} {T : Nat → Nat → Int32} {t : Nat} (h : ¬ sp_vc So T t = 0) : sp_vc So T t = 1 ∨ sp_vc So T t = 2 ∨ sp_vc So T t = 3 ∨ sp_vc So T t = 4 ∨ sp_vc So T t = 6 := by
  unfold sp_vc at h ⊢
  rcases ol_if_or (So t = 3 ∧ T 2 t = 0) (4 : Int32) 0 with q | q
  · rw [q]; simp
  · exact absurd q h
theorem sp_kc_r {So : Nat → Nat} {T : Nat → Nat → Int32} {t : Nat} (h : ¬ sp_kc So T t = 0) : sp_kc So T t = 1 ∨ sp_kc So T t = 2 ∨ sp_kc So T t = 3 ∨ sp_kc So T t = 4 ∨ sp_kc So T t = 6 := by
  unfold sp_kc at h ⊢
  exact Or.inl (ol_p_t (ol_p_n.mp h))
theorem sp_lc_r {So : Nat → Nat} {T : Nat → Nat → Int32} {P : Nat → Nat → Option Nat} {t : Nat} (h : ¬ sp_lc So T P t = 0) : sp_lc So T P t = 1 ∨ sp_lc So T P t = 2 ∨ sp_lc So T P t = 3 ∨ sp_lc So T P t = 4 ∨ sp_lc So T P t = 6 := by
  unfold sp_lc at h ⊢
  rcases ol_if_or (So t = 5) (ol_if (ol_k 6 (T 2 t)) (0 : Int32) 2) (ol_if (So t = 1 ∨ So t = 4) (ol_if (So t = 4 ∧ ∃ i, i < 6 ∧ ol_br So (P (1 + i) t)) 3 0) (ol_if (ol_br So (P 0 t)) 3 0)) with q | q <;> rw [q] at h ⊢
  · rcases ol_if_or (ol_k 6 (T 2 t)) (0 : Int32) 2 with q | q <;> rw [q] at h ⊢
    · exact absurd rfl h
    · simp
  · rcases ol_if_or (So t = 1 ∨ So t = 4) (ol_if (So t = 4 ∧ ∃ i, i < 6 ∧ ol_br So (P (1 + i) t)) (3 : Int32) 0) (ol_if (ol_br So (P 0 t)) 3 0) with q | q <;> rw [q] at h ⊢
    · rcases ol_if_or (So t = 4 ∧ ∃ i, i < 6 ∧ ol_br So (P (1 + i) t)) (3 : Int32) 0 with q | q <;> rw [q] at h ⊢
      · simp
      · exact absurd rfl h
    · rcases ol_if_or (ol_br So (P 0 t)) (3 : Int32) 0 with q | q <;> rw [q] at h ⊢
      · simp
      · exact absurd rfl h
theorem sp_n2_none {So : Nat → Nat} {T : Nat → Nat → Int32} {P : Nat → Nat → Option Nat} {k t : Nat} {b : ol_B} (hv0 : sp_vc So T t = 0) (hl0 : sp_lc So T P t = 0) (h : (sp_ls So T P t (sp_ln So P t) 0 (sp_ask (va_up b.1 t (b.1 t + 1), b.2.1, ol_u2 b.2.2.1 0 k (sp_vv So T t), b.2.2.2) t)).2 = none) : sp_n2 So T P k t b = (((sp_ls So T P t (sp_ln So P t) 0 (sp_ask (va_up b.1 t (b.1 t + 1), b.2.1, ol_u2 b.2.2.1 0 k (sp_vv So T t), b.2.2.2) t)).1.1, ol_u2 (sp_ls So T P t (sp_ln So P t) 0 (sp_ask (va_up b.1 t (b.1 t + 1), b.2.1, ol_u2 b.2.2.1 0 k (sp_vv So T t), b.2.2.2) t)).1.2.1 2 (k + 1) ((sp_ls So T P t (sp_ln So P t) 0 (sp_ask (va_up b.1 t (b.1 t + 1), b.2.1, ol_u2 b.2.2.1 0 k (sp_vv So T t), b.2.2.2) t)).1.2.1 0 1), (sp_ls So T P t (sp_ln So P t) 0 (sp_ask (va_up b.1 t (b.1 t + 1), b.2.1, ol_u2 b.2.2.1 0 k (sp_vv So T t), b.2.2.2) t)).1.2.2), none) := by
  unfold sp_n2
  rw [ol_if_t hv0]
  unfold sp_n3
  rw [ol_if_t hl0]
  revert h
  cases sp_ls So T P t (sp_ln So P t) 0 (sp_ask (va_up b.1 t (b.1 t + 1), b.2.1, ol_u2 b.2.2.1 0 k (sp_vv So T t), b.2.2.2) t) with
  | mk b4 f =>
    intro h
    dsimp only at h
    subst h
    rfl
theorem sp_n2_some {So : Nat → Nat} {T : Nat → Nat → Int32} {P : Nat → Nat → Option Nat} {k t : Nat} {b : ol_B} {q : Nat × Int32} (hv0 : sp_vc So T t = 0) (hl0 : sp_lc So T P t = 0) (h : (sp_ls So T P t (sp_ln So P t) 0 (sp_ask (va_up b.1 t (b.1 t + 1), b.2.1, ol_u2 b.2.2.1 0 k (sp_vv So T t), b.2.2.2) t)).2 = some q) : sp_n2 So T P k t b = ((sp_ls So T P t (sp_ln So P t) 0 (sp_ask (va_up b.1 t (b.1 t + 1), b.2.1, ol_u2 b.2.2.1 0 k (sp_vv So T t), b.2.2.2) t)).1, some (q.1, none, q.2)) := by
  unfold sp_n2
  rw [ol_if_t hv0]
  unfold sp_n3
  rw [ol_if_t hl0]
  revert h
  cases sp_ls So T P t (sp_ln So P t) 0 (sp_ask (va_up b.1 t (b.1 t + 1), b.2.1, ol_u2 b.2.2.1 0 k (sp_vv So T t), b.2.2.2) t) with
  | mk b4 f =>
    intro h
    dsimp only at h
    subst h
    rfl
