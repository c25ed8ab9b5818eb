section OLSP
variable {So : Nat → Nat} {T : Nat → Nat → Int32} {P : Nat → Nat → Option Nat} {t d i : Nat} {b : ol_B}
theorem sp_ls_none (hq : sp_lk So T P t i = none) : sp_ls So T P t (d + 1) i b = sp_ls So T P t d (i + 1) (sp_hole b) := by
  rw [sp_ls, hq]
  rfl
theorem sp_ls_node {u : Nat} (hq : sp_lk So T P t i = some u) (hs : ¬ So u = 2) : sp_ls So T P t (d + 1) i b = sp_ls So T P t d (i + 1) (sp_arc b u 1 0) := by
  rw [sp_ls, hq]
  show (match (ol_if (So u = 2) _ _ : ol_B × Option (Nat × Int32)) with | (b', none) => _ | (b', some f) => _) = _
  rw [ol_if_f hs]
theorem sp_ls_b1 {u : Nat} (hq : sp_lk So T P t i = some u) (hs : So u = 2) (he : sp_en P u t = none) : sp_ls So T P t (d + 1) i b = (sp_ask b u, some (u, 1)) := by
  rw [sp_ls, hq]
  show (match (ol_if (So u = 2) _ _ : ol_B × Option (Nat × Int32)) with | (b', none) => _ | (b', some f) => _) = _
  rw [ol_if_t hs, he]
theorem sp_ls_b3 {u e : Nat} (hq : sp_lk So T P t i = some u) (hs : So u = 2) (he : sp_en P u t = some e) (hse : So e = 2) : sp_ls So T P t (d + 1) i b = (sp_ask b u, some (u, 3)) := by
  rw [sp_ls, hq]
  show (match (ol_if (So u = 2) _ _ : ol_B × Option (Nat × Int32)) with | (b', none) => _ | (b', some f) => _) = _
  rw [ol_if_t hs, he]
  show (match (ol_if (So e = 2) _ _ : ol_B × Option (Nat × Int32)) with | (b', none) => _ | (b', some f) => _) = _
  rw [ol_if_t hse]
theorem sp_ls_ok {u e : Nat} (hq : sp_lk So T P t i = some u) (hs : So u = 2) (he : sp_en P u t = some e) (hse : ¬ So e = 2) : sp_ls So T P t (d + 1) i b = sp_ls So T P t d (i + 1) (sp_arc (sp_ask (sp_ask b u) u) e (T 2 u) 1) := by
  rw [sp_ls, hq]
  show (match (ol_if (So u = 2) _ _ : ol_B × Option (Nat × Int32)) with | (b', none) => _ | (b', some f) => _) = _
  rw [ol_if_t hs, he]
  show (match (ol_if (So e = 2) _ _ : ol_B × Option (Nat × Int32)) with | (b', none) => _ | (b', some f) => _) = _
  rw [ol_if_f hse]
end OLSP
theorem sp_lk_lt {n : Nat} {So : Nat → Nat} {T : Nat → Nat → Int32} {P : Nat → Nat → Option Nat} (hV : ol_V n So T P) {t i u : Nat} (ht : t < n) (hc : sp_lc So T P t = 0) (hi : i < sp_ln So P t) (h : sp_lk So T P t i = some u) : u < n := by
  have hp := (hV.2 t ht).2.2
  unfold sp_lk at h
  unfold sp_lc at hc
  unfold sp_ln at hi
  by_cases h5 : So t = 5
  · rw [ol_if_t h5] at h hc
    by_cases hk : ol_k 6 (T 2 t)
    · obtain ⟨v, hv, ev, hv31⟩ := ol_k_ix hk (by omega)
      rw [ev, nI_clamp hv31] at h
      exact hp (1 + v) (by omega) u h
    · rw [ol_if_f hk] at hc
      exact absurd hc (by decide)
  · rw [ol_if_f h5] at h hi
    by_cases h14 : So t = 1 ∨ So t = 4
    · rw [ol_if_t h14] at h hi
      exact hp (1 + i) (by omega) u h
    · rw [ol_if_f h14] at h
      exact hp 0 (by omega) u h
theorem sp_ln_le (So : Nat → Nat) (P : Nat → Nat → Option Nat) (t : Nat) : sp_ln So P t ≤ 6 := by
  unfold sp_ln
  rcases ol_if_or (So t = 5) 1 (ol_if (So t = 1 ∨ So t = 4) 6 (ol_if (P 0 t = none) 0 1)) with h | h <;> rw [h]
  · omega
  · rcases ol_if_or (So t = 1 ∨ So t = 4) 6 (ol_if (P 0 t = none) 0 1) with h | h <;> rw [h]
    · omega
    · rcases ol_if_or (P 0 t = none) 0 1 with h | h <;> rw [h] <;> omega
theorem sp_en_lt {n : Nat} {So : Nat → Nat} {T : Nat → Nat → Int32} {P : Nat → Nat → Option Nat} (hV : ol_V n So T P) {u t e : Nat} (hu : u < n) (h : sp_en P u t = some e) : e < n := by
  have hp := (hV.2 u hu).2.2
  unfold sp_en at h
  rcases ol_if_or (P 1 u = some t) (P 2 u) (P 1 u) with q | q <;> rw [q] at h
  · exact hp 2 (by omega) e h
  · exact hp 1 (by omega) e h
/-- what refuse() leaves -/
def ol_rfu (I : Nat → Nat → Int32) (ad : Nat → Nat) (a b d : Int32) : Nat → Nat → Int32 := ol_u2 (ol_u2 (ol_u2 (ol_u2 I (ad 10) 24 a) (ad 10) 25 b) (ad 10) 26 d) (ad 10) 23 (I (ad 10) 23 + 1)
