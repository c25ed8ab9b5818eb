/-! THE CLASS'S GRAPHS: f j is the row of the graph's cell j (0 the object, 2 nodeOfThing, 3 values, 4 firstArc, 5 arcEnds, 6 arcWeights, 7 arcBridged), ph the row of its nodes -/
def ol_XG (f : Nat → Nat → Int32) (ph : Nat → Option Nat) (ta : Nat → Nat) (b : ol_B) (kc kf : Nat) : Prop :=
  f 0 9 = nI (b.2.1 0 0) ∧ f 0 10 = nI (b.2.1 0 1) ∧ f 0 11 = nI (b.2.1 0 2) ∧ (∀ k, k < b.2.1 0 0 → ph k = some (ta (b.2.1 1 k))) ∧ (∀ t, t < 40 → f 2 t = ol_e (b.2.2.2 t)) ∧ (∀ k, k < kc → f 3 k = b.2.2.1 0 k) ∧ (∀ k, k < kf → f 4 k = nI (b.2.1 2 k)) ∧ (∀ a, a < b.2.1 0 1 → f 5 a = nI (b.2.1 3 a) ∧ f 6 a = b.2.2.1 1 a ∧ f 7 a = b.2.2.1 2 a)
theorem ol_XG.congr {f f' : Nat → Nat → Int32} {ph : Nat → Option Nat} {ta : Nat → Nat} {b : ol_B} {kc kf : Nat} (e : ∀ j, j ≤ 9 → f' j = f j) (h : ol_XG f ph ta b kc kf) : ol_XG f' ph ta b kc kf := by
  unfold ol_XG
  rw [e 0 (by decide), e 2 (by decide), e 3 (by decide), e 4 (by decide), e 5 (by decide), e 6 (by decide), e 7 (by decide)]
  exact h
theorem ol_XG.hole {f : Nat → Nat → Int32} {ph : Nat → Option Nat} {ta : Nat → Nat} {b : ol_B} {kc kf : Nat} (h : ol_XG f ph ta b kc kf) : ol_XG (ol_u2 f 0 11 (nI (b.2.1 0 2 + 1))) ph ta (sp_hole b) kc kf := by
  obtain ⟨a1, a2, a3, a4, a5, a6, a7, a8⟩ := h
  have e0 : (sp_hole b).2.1 0 0 = b.2.1 0 0 := by rw [sp_hole_N, ol_u2_k _ _ (by decide)]
  have e1 : (sp_hole b).2.1 0 1 = b.2.1 0 1 := by rw [sp_hole_N, ol_u2_k _ _ (by decide)]
  have e2 : (sp_hole b).2.1 0 2 = b.2.1 0 2 + 1 := by rw [sp_hole_N, ol_u2_s]
  have r1 : (sp_hole b).2.1 1 = b.2.1 1 := by rw [sp_hole_N, ol_u2_a _ _ (by decide)]
  have r2 : (sp_hole b).2.1 2 = b.2.1 2 := by rw [sp_hole_N, ol_u2_a _ _ (by decide)]
  have r3 : (sp_hole b).2.1 3 = b.2.1 3 := by rw [sp_hole_N, ol_u2_a _ _ (by decide)]
  have rv : (sp_hole b).2.2 = b.2.2 := rfl
  unfold ol_XG
  rw [e0, e1, e2, r1, r2, r3, rv, ol_u2_k f _ (show 9 ≠ 11 by decide), ol_u2_k f _ (show 10 ≠ 11 by decide), ol_u2_s, ol_u2_a f _ (show 2 ≠ 0 by decide), ol_u2_a f _ (show 3 ≠ 0 by decide), ol_u2_a f _ (show 4 ≠ 0 by decide), ol_u2_a f _ (show 5 ≠ 0 by decide), ol_u2_a f _ (show 6 ≠ 0 by decide), ol_u2_a f _ (show 7 ≠ 0 by decide)]
  exact ⟨a1, a2, rfl, a4, a5, a6, a7, a8⟩
theorem ol_XG.findN {f : Nat → Nat → Int32} {ph : Nat → Option Nat} {ta : Nat → Nat} {u : Nat} {b : ol_B} {kc kf : Nat} (h : ol_XG f ph ta b kc kf) (ho : b.2.2.2 u = none) : ol_XG (ol_u2 (ol_u2 f 2 u (nI (b.2.1 0 0))) 0 9 (nI (b.2.1 0 0 + 1))) (va_up ph (b.2.1 0 0) (some (ta u))) ta (sp_find b u) kc kf ∧ sp_no b u = b.2.1 0 0 := by
  obtain ⟨a1, a2, a3, a4, a5, a6, a7, a8⟩ := h
  have eb : sp_find b u = (b.1, ol_u2 (ol_u2 b.2.1 1 (b.2.1 0 0) u) 0 0 (b.2.1 0 0 + 1), b.2.2.1, va_up b.2.2.2 u (some (b.2.1 0 0))) := by
    unfold sp_find
    rw [ho]
  refine ⟨?_, by unfold sp_no; rw [ho]⟩
  rw [eb]
  unfold ol_XG
  dsimp only
  rw [show ol_u2 (ol_u2 b.2.1 1 (b.2.1 0 0) u) 0 0 (b.2.1 0 0 + 1) 0 0 = b.2.1 0 0 + 1 from ol_u2_s _ _ _ _, show ol_u2 (ol_u2 b.2.1 1 (b.2.1 0 0) u) 0 0 (b.2.1 0 0 + 1) 0 1 = b.2.1 0 1 by rw [ol_u2_k _ _ (by decide), ol_u2_a _ _ (by decide)], show ol_u2 (ol_u2 b.2.1 1 (b.2.1 0 0) u) 0 0 (b.2.1 0 0 + 1) 0 2 = b.2.1 0 2 by rw [ol_u2_k _ _ (by decide), ol_u2_a _ _ (by decide)], show ol_u2 (ol_u2 b.2.1 1 (b.2.1 0 0) u) 0 0 (b.2.1 0 0 + 1) 1 = va_up (b.2.1 1) (b.2.1 0 0) u by rw [ol_u2_a _ _ (by decide), ol_u2_r], show ol_u2 (ol_u2 b.2.1 1 (b.2.1 0 0) u) 0 0 (b.2.1 0 0 + 1) 2 = b.2.1 2 by rw [ol_u2_a _ _ (by decide), ol_u2_a _ _ (by decide)], show ol_u2 (ol_u2 b.2.1 1 (b.2.1 0 0) u) 0 0 (b.2.1 0 0 + 1) 3 = b.2.1 3 by rw [ol_u2_a _ _ (by decide), ol_u2_a _ _ (by decide)]]
  have Fr : ∀ r, r ≠ 0 → r ≠ 2 → ol_u2 (ol_u2 f 2 u (nI (b.2.1 0 0))) 0 9 (nI (b.2.1 0 0 + 1)) r = f r := by
    intro r h1 h2
    rw [ol_u2_a _ _ h1, ol_u2_a _ _ h2]
  rw [Fr 3 (by decide) (by decide), Fr 4 (by decide) (by decide), Fr 5 (by decide) (by decide), Fr 6 (by decide) (by decide), Fr 7 (by decide) (by decide), ol_u2_s, ol_u2_k _ _ (show 10 ≠ 9 by decide), ol_u2_k _ _ (show 11 ≠ 9 by decide), ol_u2_a _ _ (show 0 ≠ 2 by decide), ol_u2_a _ _ (show 2 ≠ 0 by decide)]
  refine ⟨rfl, a2, a3, ?_, ?_, a6, a7, a8⟩
  · intro k hk
    by_cases e : k = b.2.1 0 0
    · subst e
      rw [va_up_self, va_up_self]
    · rw [va_up_ne _ _ e, va_up_ne _ _ e]
      exact a4 k (by omega)
  · intro t ht
    by_cases e : t = u
    · subst e
      rw [ol_u2_s, va_up_self]
      rfl
    · rw [ol_u2_k _ _ e, va_up_ne _ _ e]
      exact a5 t ht
theorem ol_XG.arc {f : Nat → Nat → Int32} {ph : Nat → Option Nat} {ta : Nat → Nat} {u : Nat} {b : ol_B} {kc kf : Nat} (w br : Int32) (h : ol_XG f ph ta (sp_find b u) kc kf) : ol_XG (ol_u2 (ol_u2 (ol_u2 (ol_u2 f 5 (b.2.1 0 1) (nI (sp_no b u))) 6 (b.2.1 0 1) w) 7 (b.2.1 0 1) br) 0 10 (nI (b.2.1 0 1 + 1))) ph ta (sp_arc b u w br) kc kf := by
  obtain ⟨-, ev, e1'⟩ := sp_find_1 b u
  obtain ⟨a1, a2, a3, a4, a5, a6, a7, a8⟩ := h
  have e0 : (sp_arc b u w br).2.1 0 0 = (sp_find b u).2.1 0 0 := by rw [sp_arc_N, ol_u2_k _ _ (by decide), ol_u2_a _ _ (by decide)]
  have e1 : (sp_arc b u w br).2.1 0 1 = b.2.1 0 1 + 1 := by rw [sp_arc_N, ol_u2_s]
  have e2 : (sp_arc b u w br).2.1 0 2 = (sp_find b u).2.1 0 2 := by rw [sp_arc_N, ol_u2_k _ _ (by decide), ol_u2_a _ _ (by decide)]
  have r1 : (sp_arc b u w br).2.1 1 = (sp_find b u).2.1 1 := by rw [sp_arc_N, ol_u2_a _ _ (by decide), ol_u2_a _ _ (by decide)]
  have r2 : (sp_arc b u w br).2.1 2 = (sp_find b u).2.1 2 := by rw [sp_arc_N, ol_u2_a _ _ (by decide), ol_u2_a _ _ (by decide)]
  have r3 : (sp_arc b u w br).2.1 3 = va_up ((sp_find b u).2.1 3) (b.2.1 0 1) (sp_no b u) := by rw [sp_arc_N, ol_u2_a _ _ (by decide), ol_u2_r]
  have rv : (sp_arc b u w br).2.2.1 = ol_u2 (ol_u2 b.2.2.1 1 (b.2.1 0 1) w) 2 (b.2.1 0 1) br := rfl
  have ro' : (sp_arc b u w br).2.2.2 = (sp_find b u).2.2.2 := rfl
  unfold ol_XG
  rw [e0, e1, e2, r1, r2, r3, rv, ro']
  have Fr : ∀ r, r ≠ 0 → r ≠ 5 → r ≠ 6 → r ≠ 7 → ol_u2 (ol_u2 (ol_u2 (ol_u2 f 5 (b.2.1 0 1) (nI (sp_no b u))) 6 (b.2.1 0 1) w) 7 (b.2.1 0 1) br) 0 10 (nI (b.2.1 0 1 + 1)) r = f r := by
    intro r h1 h2 h3 h4
    rw [ol_u2_a _ _ h1, ol_u2_a _ _ h4, ol_u2_a _ _ h3, ol_u2_a _ _ h2]
  have F0' : ∀ k, k ≠ 10 → ol_u2 (ol_u2 (ol_u2 (ol_u2 f 5 (b.2.1 0 1) (nI (sp_no b u))) 6 (b.2.1 0 1) w) 7 (b.2.1 0 1) br) 0 10 (nI (b.2.1 0 1 + 1)) 0 k = f 0 k := by
    intro k hk
    rw [ol_u2_k _ _ hk, ol_u2_a _ _ (show 0 ≠ 7 by decide), ol_u2_a _ _ (show 0 ≠ 6 by decide), ol_u2_a _ _ (show 0 ≠ 5 by decide)]
  rw [F0' 9 (by decide), F0' 11 (by decide), ol_u2_s, Fr 2 (by decide) (by decide) (by decide) (by decide), Fr 3 (by decide) (by decide) (by decide) (by decide), Fr 4 (by decide) (by decide) (by decide) (by decide)]
  refine ⟨a1, rfl, a3, a4, a5, ?_, a7, ?_⟩
  · rw [ol_u2_a _ _ (show 0 ≠ 2 by decide), ol_u2_a _ _ (show 0 ≠ 1 by decide), ← ev]
    exact a6
  · intro a ha
    rw [ol_u2_a _ _ (show 5 ≠ 0 by decide), ol_u2_a _ _ (show 5 ≠ 7 by decide), ol_u2_a _ _ (show 5 ≠ 6 by decide), ol_u2_a _ _ (show 6 ≠ 0 by decide), ol_u2_a _ _ (show 6 ≠ 7 by decide), ol_u2_a _ _ (show 7 ≠ 0 by decide), ol_u2_a _ _ (show 1 ≠ 2 by decide)]
    by_cases e : a = b.2.1 0 1
    · subst e
      rw [ol_u2_s, ol_u2_s, ol_u2_s, ol_u2_s, ol_u2_s, va_up_self]
      exact ⟨rfl, rfl, rfl⟩
    · have hA := a8 a (by rw [e1']; omega)
      refine ⟨?_, ?_, ?_⟩
      · rw [ol_u2_k _ _ e, va_up_ne _ _ e]
        exact hA.1
      · rw [ol_u2_k _ _ e, ol_u2_k _ _ e, ol_u2_a _ _ (show 6 ≠ 5 by decide), ← ev]
        exact hA.2.1
      · rw [ol_u2_k _ _ e, ol_u2_k _ _ e, ol_u2_a _ _ (show 7 ≠ 6 by decide), ol_u2_a _ _ (show 7 ≠ 5 by decide), ol_u2_a _ _ (show 2 ≠ 1 by decide), ← ev]
        exact hA.2.2
theorem ol_XG.col {f : Nat → Nat → Int32} {ph : Nat → Option Nat} {ta : Nat → Nat} {b : ol_B} {kc kf : Nat} (h : ol_XG f ph ta b kc kf) (x : Int32) : ol_XG (ol_u2 f 3 kc x) ph ta (b.1, b.2.1, ol_u2 b.2.2.1 0 kc x, b.2.2.2) (kc + 1) kf := by
  obtain ⟨a1, a2, a3, a4, a5, a6, a7, a8⟩ := h
  unfold ol_XG
  dsimp only
  rw [ol_u2_a f _ (show 0 ≠ 3 by decide), ol_u2_a f _ (show 2 ≠ 3 by decide), ol_u2_a f _ (show 4 ≠ 3 by decide), ol_u2_a f _ (show 5 ≠ 3 by decide), ol_u2_a f _ (show 6 ≠ 3 by decide), ol_u2_a f _ (show 7 ≠ 3 by decide), ol_u2_a _ _ (show 1 ≠ 0 by decide), ol_u2_a _ _ (show 2 ≠ 0 by decide)]
  refine ⟨a1, a2, a3, a4, a5, ?_, a7, a8⟩
  intro k hk
  by_cases e : k = kc
  · subst e
    rw [ol_u2_s, ol_u2_s]
  · rw [ol_u2_k _ _ e, ol_u2_k _ _ e]
    exact a6 k (by omega)
theorem ol_XG.fa {f : Nat → Nat → Int32} {ph : Nat → Option Nat} {ta : Nat → Nat} {b : ol_B} {kc kf : Nat} (h : ol_XG f ph ta b kc kf) : ol_XG (ol_u2 f 4 kf (nI (b.2.1 0 1))) ph ta (b.1, ol_u2 b.2.1 2 kf (b.2.1 0 1), b.2.2) kc (kf + 1) := by
  obtain ⟨a1, a2, a3, a4, a5, a6, a7, a8⟩ := h
  unfold ol_XG
  dsimp only
  rw [ol_u2_a f _ (show 0 ≠ 4 by decide), ol_u2_a f _ (show 2 ≠ 4 by decide), ol_u2_a f _ (show 3 ≠ 4 by decide), ol_u2_a f _ (show 5 ≠ 4 by decide), ol_u2_a f _ (show 6 ≠ 4 by decide), ol_u2_a f _ (show 7 ≠ 4 by decide), ol_u2_a _ _ (show 0 ≠ 2 by decide), ol_u2_a _ _ (show 1 ≠ 2 by decide), ol_u2_a _ _ (show 3 ≠ 2 by decide)]
  refine ⟨a1, a2, a3, a4, a5, a6, ?_, a8⟩
  intro k hk
  by_cases e : k = kf
  · subst e
    rw [ol_u2_s, ol_u2_s]
  · rw [ol_u2_k _ _ e, ol_u2_k _ _ e]
    exact a7 k (by omega)
def ol_vx (I : Nat → Nat → Int32) (ad : Nat → Nat) (g : Nat) : Nat → Nat → Int32 := fun j => I (ad (g + j))
theorem ol_gu {g j : Nat} (hg : g ∈ [50, 60]) (hj : j ≤ 9) : g + j ∈ ol_uq := by
  rcases ol_5060 hg with rfl | rfl
  · have : j = 0 ∨ j = 1 ∨ j = 2 ∨ j = 3 ∨ j = 4 ∨ j = 5 ∨ j = 6 ∨ j = 7 ∨ j = 8 ∨ j = 9 := by omega
    rcases this with rfl | rfl | rfl | rfl | rfl | rfl | rfl | rfl | rfl | rfl <;> decide
  · have : j = 0 ∨ j = 1 ∨ j = 2 ∨ j = 3 ∨ j = 4 ∨ j = 5 ∨ j = 6 ∨ j = 7 ∨ j = 8 ∨ j = 9 := by omega
    rcases this with rfl | rfl | rfl | rfl | rfl | rfl | rfl | rfl | rfl | rfl <;> decide
theorem ol_vxu {ro : Nat → Nat} {F : Nat → Nat → Option Nat} {ad : Nat → Nat} (hL : ol_L ro F ad) {g : Nat} (hg : g ∈ [50, 60]) (I : Nat → Nat → Int32) {j0 j : Nat} (k : Nat) (v : Int32) (h0 : j0 ≤ 9) (hj : j ≤ 9) : ol_vx (ol_u2 I (ad (g + j0)) k v) ad g j = ol_u2 (ol_vx I ad g) j0 k v j := by
  show ol_u2 I (ad (g + j0)) k v (ad (g + j)) = ol_u2 (ol_vx I ad g) j0 k v j
  by_cases e : j = j0
  · subst e
    rw [ol_u2_r, ol_u2_r]
    rfl
  · rw [ol_u2_a _ _ (hL.ne (ol_gu hg hj) (ol_gu hg h0) (by omega)), ol_u2_a _ _ e]
    rfl
