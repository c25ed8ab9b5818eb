/-! LOADING, purely: b = (asked, N, V, O): N 0 0 nodes, N 0 1 arcs, N 0 2 holes, N 1 k the thing of node k, N 2 k its first arc, N 3 a where arc a leads; V 0 k column, V 1 a weight, V 2 a whether bridged; O t the node of thing t -/
abbrev ol_B : Type := (Nat → Int32) × (Nat → Nat → Nat) × (Nat → Nat → Int32) × (Nat → Option Nat)
def sp_find (b : ol_B) (u : Nat) : ol_B := match b.2.2.2 u with
  | some _ => b
  | none => (b.1, ol_u2 (ol_u2 b.2.1 1 (b.2.1 0 0) u) 0 0 (b.2.1 0 0 + 1), b.2.2.1, va_up b.2.2.2 u (some (b.2.1 0 0)))
def sp_no (b : ol_B) (u : Nat) : Nat := match b.2.2.2 u with
  | some k => k
  | none => b.2.1 0 0
def sp_ask (b : ol_B) (u : Nat) : ol_B := (va_up b.1 u (b.1 u + 1), b.2)
def sp_hole (b : ol_B) : ol_B := (b.1, ol_u2 b.2.1 0 2 (b.2.1 0 2 + 1), b.2.2)
def sp_arc (b : ol_B) (u : Nat) (w br : Int32) : ol_B :=
  ((sp_find b u).1, ol_u2 (ol_u2 (sp_find b u).2.1 3 (b.2.1 0 1) (sp_no b u)) 0 1 (b.2.1 0 1 + 1), ol_u2 (ol_u2 b.2.2.1 1 (b.2.1 0 1) w) 2 (b.2.1 0 1) br, (sp_find b u).2.2.2)
/-- one link of the node that the thing t is; what failed: the thing, the cause -/
noncomputable def sp_fo (So : Nat → Nat) (T : Nat → Nat → Int32) (P : Nat → Nat → Option Nat) (t : Nat) (q : Option Nat) (b : ol_B) : ol_B × Option (Nat × Int32) := match q with
  | none => (sp_hole b, none)
  | some u => ol_if (So u = 2) (match sp_en P u t with
      | none => (sp_ask b u, some (u, 1))
      | some e => ol_if (So e = 2) (sp_ask b u, some (u, 3)) (sp_arc (sp_ask (sp_ask b u) u) e (T 2 u) 1, none)) (sp_arc b u 1 0, none)
noncomputable def sp_ls (So : Nat → Nat) (T : Nat → Nat → Int32) (P : Nat → Nat → Option Nat) (t : Nat) : Nat → Nat → ol_B → ol_B × Option (Nat × Int32)
  | 0, _, b => (b, none)
  | c + 1, i, b => match sp_fo So T P t (sp_lk So T P t i) b with
    | (b', none) => sp_ls So T P t c (i + 1) b'
    | (b', some f) => (b', some f)
theorem sp_hole_N (b : ol_B) : (sp_hole b).2.1 = ol_u2 b.2.1 0 2 (b.2.1 0 2 + 1) := rfl
theorem sp_arc_N (b : ol_B) (u : Nat) (w br : Int32) : (sp_arc b u w br).2.1 = ol_u2 (ol_u2 (sp_find b u).2.1 3 (b.2.1 0 1) (sp_no b u)) 0 1 (b.2.1 0 1 + 1) := rfl
/-- how many of the first n are found -/
def ol_cn (O : Nat → Option Nat) : Nat → Nat
  | 0 => 0
  | n + 1 => ol_cn O n + (if (O n).isSome then 1 else 0)
theorem ol_cn_le (O : Nat → Option Nat) : ∀ n, ol_cn O n ≤ n
  | 0 => Nat.le_refl _
  | n + 1 => by
    have := ol_cn_le O n
    unfold ol_cn
    split <;> omega
theorem ol_cn_lt {O : Nat → Option Nat} {u : Nat} (hu : O u = none) : ∀ n, u < n → ol_cn O n < n
  | 0, h => absurd h (by omega)
  | n + 1, h => by
    unfold ol_cn
    by_cases e : u = n
    · subst e
      have := ol_cn_le O u
      rw [hu]
      simp
      omega
    · have := ol_cn_lt hu n (by omega)
      split <;> omega
theorem ol_cn_up {O : Nat → Option Nat} {u k : Nat} (hu : O u = none) : ∀ n, ol_cn (va_up O u (some k)) n = ol_cn O n + (if u < n then 1 else 0)
  | 0 => by simp [ol_cn]
  | n + 1 => by
    unfold ol_cn
    rw [ol_cn_up hu n]
    by_cases e : u = n
    · subst e
      rw [va_up_self, hu]
      simp
    · rw [va_up_ne _ _ (Ne.symm e)]
      by_cases h : u < n
      · rw [if_pos h, if_pos (show u < n + 1 by omega)]
        omega
      · rw [if_neg h, if_neg (show ¬ u < n + 1 by omega)]
        rfl
/-- what stays true of b while it grows: n things; the arcs are at most M -/
def ol_BW (n : Nat) (So : Nat → Nat) (b : ol_B) (M : Nat) : Prop :=
  b.2.1 0 0 = ol_cn b.2.2.2 n ∧ (∀ k, k < b.2.1 0 0 → b.2.1 1 k < n ∧ So (b.2.1 1 k) ≠ 2 ∧ b.2.2.2 (b.2.1 1 k) = some k) ∧ (∀ t k, b.2.2.2 t = some k → t < n ∧ k < b.2.1 0 0 ∧ b.2.1 1 k = t) ∧ b.2.1 0 1 ≤ M ∧ ∀ a, a < b.2.1 0 1 → b.2.1 3 a < b.2.1 0 0
theorem ol_BW.le {n : Nat} {So : Nat → Nat} {b : ol_B} {M : Nat} (h : ol_BW n So b M) : b.2.1 0 0 ≤ n := by rw [h.1]; exact ol_cn_le _ n
theorem ol_BW.mono {n : Nat} {So : Nat → Nat} {b : ol_B} {M M' : Nat} (h : ol_BW n So b M) (hM : M ≤ M') : ol_BW n So b M' := ⟨h.1, h.2.1, h.2.2.1, Nat.le_trans h.2.2.2.1 hM, h.2.2.2.2⟩
theorem ol_BW.lt {n : Nat} {So : Nat → Nat} {b : ol_B} {M u : Nat} (h : ol_BW n So b M) (hu : u < n) (ho : b.2.2.2 u = none) : b.2.1 0 0 < n := by rw [h.1]; exact ol_cn_lt ho n hu
theorem ol_BW.ask {n : Nat} {So : Nat → Nat} {b : ol_B} {M : Nat} (h : ol_BW n So b M) (u : Nat) : ol_BW n So (sp_ask b u) M := h
theorem ol_BW.hole {n : Nat} {So : Nat → Nat} {b : ol_B} {M : Nat} (h : ol_BW n So b M) : ol_BW n So (sp_hole b) M := by
  have e1 : (sp_hole b).2.1 0 0 = b.2.1 0 0 := by rw [sp_hole_N, ol_u2_k _ _ (by decide)]
  have e2 : (sp_hole b).2.1 0 1 = b.2.1 0 1 := by rw [sp_hole_N, ol_u2_k _ _ (by decide)]
  have e3 : (sp_hole b).2.1 1 = b.2.1 1 := by rw [sp_hole_N, ol_u2_a _ _ (by decide)]
  have e4 : (sp_hole b).2.1 3 = b.2.1 3 := by rw [sp_hole_N, ol_u2_a _ _ (by decide)]
  unfold ol_BW
  rw [e1, e2, e3, e4]
  exact h
theorem ol_BW.find {n : Nat} {So : Nat → Nat} {b : ol_B} {M u : Nat} (h : ol_BW n So b M) (hu : u < n) (hs : So u ≠ 2) : ol_BW n So (sp_find b u) M ∧ (sp_find b u).2.1 0 1 = b.2.1 0 1 ∧ (sp_find b u).2.1 3 = b.2.1 3 ∧ sp_no b u < (sp_find b u).2.1 0 0 ∧ b.2.1 0 0 ≤ (sp_find b u).2.1 0 0 := by
  unfold sp_find sp_no
  cases ho : b.2.2.2 u with
  | some k => exact ⟨h, rfl, rfl, (h.2.2.1 u k ho).2.1, Nat.le_refl _⟩
  | none =>
    have e1 : ol_u2 (ol_u2 b.2.1 1 (b.2.1 0 0) u) 0 0 (b.2.1 0 0 + 1) 0 0 = b.2.1 0 0 + 1 := ol_u2_s _ _ _ _
    have e2 : ol_u2 (ol_u2 b.2.1 1 (b.2.1 0 0) u) 0 0 (b.2.1 0 0 + 1) 0 1 = b.2.1 0 1 := by rw [ol_u2_k _ _ (by decide), ol_u2_a _ _ (by decide)]
    have e3 : ol_u2 (ol_u2 b.2.1 1 (b.2.1 0 0) u) 0 0 (b.2.1 0 0 + 1) 1 = va_up (b.2.1 1) (b.2.1 0 0) u := by rw [ol_u2_a _ _ (by decide), ol_u2_r]
    have e4 : ol_u2 (ol_u2 b.2.1 1 (b.2.1 0 0) u) 0 0 (b.2.1 0 0 + 1) 3 = b.2.1 3 := by rw [ol_u2_a _ _ (by decide), ol_u2_a _ _ (by decide)]
    refine ⟨⟨?_, ?_, ?_, ?_, ?_⟩, e2, e4, ?_, ?_⟩
    · show ol_u2 (ol_u2 b.2.1 1 (b.2.1 0 0) u) 0 0 (b.2.1 0 0 + 1) 0 0 = ol_cn (va_up b.2.2.2 u (some (b.2.1 0 0))) n
      rw [e1, ol_cn_up ho, if_pos hu, ← h.1]
    · intro k hk
      change k < ol_u2 (ol_u2 b.2.1 1 (b.2.1 0 0) u) 0 0 (b.2.1 0 0 + 1) 0 0 at hk
      change ol_u2 (ol_u2 b.2.1 1 (b.2.1 0 0) u) 0 0 (b.2.1 0 0 + 1) 1 k < n ∧ So (ol_u2 (ol_u2 b.2.1 1 (b.2.1 0 0) u) 0 0 (b.2.1 0 0 + 1) 1 k) ≠ 2 ∧ va_up b.2.2.2 u (some (b.2.1 0 0)) (ol_u2 (ol_u2 b.2.1 1 (b.2.1 0 0) u) 0 0 (b.2.1 0 0 + 1) 1 k) = some k
      rw [e1] at hk
      rw [e3]
      by_cases e : k = b.2.1 0 0
      · subst e
        rw [va_up_self, va_up_self]
        exact ⟨hu, hs, rfl⟩
      · rw [va_up_ne _ _ e]
        obtain ⟨q1, q2, q3⟩ := h.2.1 k (by omega)
        refine ⟨q1, q2, ?_⟩
        rw [va_up_ne _ _ (fun z => by rw [z, ho] at q3; cases q3)]
        exact q3
    · intro t k htk
      change va_up b.2.2.2 u (some (b.2.1 0 0)) t = some k at htk
      change t < n ∧ k < ol_u2 (ol_u2 b.2.1 1 (b.2.1 0 0) u) 0 0 (b.2.1 0 0 + 1) 0 0 ∧ ol_u2 (ol_u2 b.2.1 1 (b.2.1 0 0) u) 0 0 (b.2.1 0 0 + 1) 1 k = t
      rw [e1, e3]
      by_cases e : t = u
      · subst e
        rw [va_up_self] at htk
        have ek : b.2.1 0 0 = k := Option.some.inj htk
        subst ek
        exact ⟨hu, Nat.lt_succ_self _, va_up_self _ _ _⟩
      · rw [va_up_ne _ _ e] at htk
        obtain ⟨q1, q2, q3⟩ := h.2.2.1 t k htk
        exact ⟨q1, by omega, by rw [va_up_ne _ _ (by omega)]; exact q3⟩
    · show ol_u2 (ol_u2 b.2.1 1 (b.2.1 0 0) u) 0 0 (b.2.1 0 0 + 1) 0 1 ≤ M
      rw [e2]
      exact h.2.2.2.1
    · intro a ha
      change a < ol_u2 (ol_u2 b.2.1 1 (b.2.1 0 0) u) 0 0 (b.2.1 0 0 + 1) 0 1 at ha
      change ol_u2 (ol_u2 b.2.1 1 (b.2.1 0 0) u) 0 0 (b.2.1 0 0 + 1) 3 a < ol_u2 (ol_u2 b.2.1 1 (b.2.1 0 0) u) 0 0 (b.2.1 0 0 + 1) 0 0
      rw [e2] at ha
      rw [e4, e1]
      have := h.2.2.2.2 a ha
      omega
    · show b.2.1 0 0 < ol_u2 (ol_u2 b.2.1 1 (b.2.1 0 0) u) 0 0 (b.2.1 0 0 + 1) 0 0
      rw [e1]
      omega
    · show b.2.1 0 0 ≤ ol_u2 (ol_u2 b.2.1 1 (b.2.1 0 0) u) 0 0 (b.2.1 0 0 + 1) 0 0
      rw [e1]
      omega
theorem ol_BW.arc {n : Nat} {So : Nat → Nat} {b : ol_B} {M u : Nat} (w br : Int32) (h : ol_BW n So b M) (hu : u < n) (hs : So u ≠ 2) : ol_BW n So (sp_arc b u w br) (M + 1) := by
  obtain ⟨h1, f1, f3, f4, f5⟩ := h.find hu hs
  have e1 : (sp_arc b u w br).2.1 0 0 = (sp_find b u).2.1 0 0 := by
    rw [sp_arc_N, ol_u2_k _ _ (by decide), ol_u2_a _ _ (by decide)]
  have e2 : (sp_arc b u w br).2.1 0 1 = b.2.1 0 1 + 1 := by rw [sp_arc_N, ol_u2_s]
  have e3 : (sp_arc b u w br).2.1 1 = (sp_find b u).2.1 1 := by
    rw [sp_arc_N, ol_u2_a _ _ (by decide), ol_u2_a _ _ (by decide)]
  have e4 : (sp_arc b u w br).2.1 3 = va_up ((sp_find b u).2.1 3) (b.2.1 0 1) (sp_no b u) := by
    rw [sp_arc_N, ol_u2_a _ _ (by decide), ol_u2_r]
  have e5 : (sp_arc b u w br).2.2.2 = (sp_find b u).2.2.2 := rfl
  have hM := h.2.2.2.1
  refine ⟨by rw [e1, e5]; exact h1.1, ?_, ?_, by rw [e2]; omega, ?_⟩
  · rw [e1, e3, e5]
    exact h1.2.1
  · rw [e1, e3, e5]
    exact h1.2.2.1
  · intro a ha
    rw [e2] at ha
    rw [e4, e1]
    by_cases e : a = b.2.1 0 1
    · subst e
      rw [va_up_self]
      exact f4
    · rw [va_up_ne _ _ e, f3]
      have := h.2.2.2.2 a (by omega)
      omega
