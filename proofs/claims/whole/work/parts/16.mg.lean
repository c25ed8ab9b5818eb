/-! THE REFERENCE'S GRAPHS: f r is the row of role r; slot g -/
def ol_o (q : Option Nat) : Int32 := match q with
  | none => -1
  | some k => nI k
def ol_MG (f : Nat → Nat → Int32) (g : Nat) (b : ol_B) (kc kf : Nat) : Prop :=
  f 31 g = nI (b.2.1 0 0) ∧ f 36 g = nI (b.2.1 0 1) ∧ f 40 g = nI (b.2.1 0 2) ∧ (∀ k, k < b.2.1 0 0 → f 32 (40 * g + k) = nI (b.2.1 1 k)) ∧ (∀ t, t < 40 → f 33 (40 * g + t) = ol_o (b.2.2.2 t)) ∧ (∀ k, k < kc → f 34 (40 * g + k) = b.2.2.1 0 k) ∧ (∀ k, k < kf → f 35 (41 * g + k) = nI (b.2.1 2 k)) ∧ (∀ a, a < b.2.1 0 1 → f 37 (240 * g + a) = nI (b.2.1 3 a) ∧ f 38 (240 * g + a) = b.2.2.1 1 a ∧ f 39 (240 * g + a) = b.2.2.1 2 a)
theorem ol_MG.congr {f f' : Nat → Nat → Int32} {g : Nat} {b : ol_B} {kc kf : Nat} (e : ∀ r ∈ [31, 32, 33, 34, 35, 36, 37, 38, 39, 40], f' r = f r) (h : ol_MG f g b kc kf) : ol_MG f' g b kc kf := by
  unfold ol_MG
  rw [e 31 (by decide), e 32 (by decide), e 33 (by decide), e 34 (by decide), e 35 (by decide), e 36 (by decide), e 37 (by decide), e 38 (by decide), e 39 (by decide), e 40 (by decide)]
  exact h
theorem ol_MG.ask {f : Nat → Nat → Int32} {g : Nat} {b : ol_B} {kc kf : Nat} (h : ol_MG f g b kc kf) (u : Nat) : ol_MG f g (sp_ask b u) kc kf := h
theorem ol_MG.hole {f : Nat → Nat → Int32} {g : Nat} {b : ol_B} {kc kf : Nat} (h : ol_MG f g b kc kf) : ol_MG (ol_u2 f 40 g (nI (b.2.1 0 2 + 1))) g (sp_hole b) kc kf := by
  obtain ⟨a1, a2, a3, a4, a5, a6, a7, a8⟩ := h
  have e0 : (sp_hole b).2.1 0 0 = b.2.1 0 0 := by rw [sp_hole_N, ol_u2_k _ _ (by decide)]
  have e1 : (sp_hole b).2.1 0 1 = b.2.1 0 1 := by rw [sp_hole_N, ol_u2_k _ _ (by decide)]
  have e2 : (sp_hole b).2.1 0 2 = b.2.1 0 2 + 1 := by rw [sp_hole_N, ol_u2_s]
  have r1 : (sp_hole b).2.1 1 = b.2.1 1 := by rw [sp_hole_N, ol_u2_a _ _ (by decide)]
  have r2 : (sp_hole b).2.1 2 = b.2.1 2 := by rw [sp_hole_N, ol_u2_a _ _ (by decide)]
  have r3 : (sp_hole b).2.1 3 = b.2.1 3 := by rw [sp_hole_N, ol_u2_a _ _ (by decide)]
  have rv : (sp_hole b).2.2 = b.2.2 := rfl
  unfold ol_MG
  rw [e0, e1, e2, r1, r2, r3, rv, ol_u2_a f _ (show 31 ≠ 40 by decide), ol_u2_a f _ (show 32 ≠ 40 by decide), ol_u2_a f _ (show 33 ≠ 40 by decide), ol_u2_a f _ (show 34 ≠ 40 by decide), ol_u2_a f _ (show 35 ≠ 40 by decide), ol_u2_a f _ (show 36 ≠ 40 by decide), ol_u2_a f _ (show 37 ≠ 40 by decide), ol_u2_a f _ (show 38 ≠ 40 by decide), ol_u2_a f _ (show 39 ≠ 40 by decide), ol_u2_s]
  exact ⟨a1, a2, rfl, a4, a5, a6, a7, a8⟩
/-- found(): the old one, or a new node -/
theorem ol_MG.findO {f : Nat → Nat → Int32} {g u k : Nat} {b : ol_B} {kc kf : Nat} (h : ol_MG f g b kc kf) (ho : b.2.2.2 u = some k) : ol_MG f g (sp_find b u) kc kf ∧ sp_no b u = k := by
  unfold sp_find sp_no
  rw [ho]
  exact ⟨h, rfl⟩
theorem ol_MG.findN {f : Nat → Nat → Int32} {g u : Nat} {b : ol_B} {kc kf : Nat} (h : ol_MG f g b kc kf) (ho : b.2.2.2 u = none) : ol_MG (ol_u2 (ol_u2 (ol_u2 f 33 (40 * g + u) (nI (b.2.1 0 0))) 32 (40 * g + b.2.1 0 0) (nI u)) 31 g (nI (b.2.1 0 0 + 1))) g (sp_find b u) kc kf ∧ sp_no b u = b.2.1 0 0 := by
  obtain ⟨a1, a2, a3, a4, a5, a6, a7, a8⟩ := h
  have eb : sp_find b u = (b.1, ol_u2 (ol_u2 b.2.1 1 (b.2.1 0 0) u) 0 0 (b.2.1 0 0 + 1), b.2.2.1, va_up b.2.2.2 u (some (b.2.1 0 0))) := by
    unfold sp_find
    rw [ho]
  refine ⟨?_, by unfold sp_no; rw [ho]⟩
  rw [eb]
  unfold ol_MG
  dsimp only
  rw [show ol_u2 (ol_u2 b.2.1 1 (b.2.1 0 0) u) 0 0 (b.2.1 0 0 + 1) 0 0 = b.2.1 0 0 + 1 from ol_u2_s _ _ _ _, show ol_u2 (ol_u2 b.2.1 1 (b.2.1 0 0) u) 0 0 (b.2.1 0 0 + 1) 0 1 = b.2.1 0 1 by rw [ol_u2_k _ _ (by decide), ol_u2_a _ _ (by decide)], show ol_u2 (ol_u2 b.2.1 1 (b.2.1 0 0) u) 0 0 (b.2.1 0 0 + 1) 0 2 = b.2.1 0 2 by rw [ol_u2_k _ _ (by decide), ol_u2_a _ _ (by decide)], show ol_u2 (ol_u2 b.2.1 1 (b.2.1 0 0) u) 0 0 (b.2.1 0 0 + 1) 1 = va_up (b.2.1 1) (b.2.1 0 0) u by rw [ol_u2_a _ _ (by decide), ol_u2_r], show ol_u2 (ol_u2 b.2.1 1 (b.2.1 0 0) u) 0 0 (b.2.1 0 0 + 1) 2 = b.2.1 2 by rw [ol_u2_a _ _ (by decide), ol_u2_a _ _ (by decide)], show ol_u2 (ol_u2 b.2.1 1 (b.2.1 0 0) u) 0 0 (b.2.1 0 0 + 1) 3 = b.2.1 3 by rw [ol_u2_a _ _ (by decide), ol_u2_a _ _ (by decide)]]
  have F : ∀ r, r ≠ 31 → r ≠ 32 → r ≠ 33 → ol_u2 (ol_u2 (ol_u2 f 33 (40 * g + u) (nI (b.2.1 0 0))) 32 (40 * g + b.2.1 0 0) (nI u)) 31 g (nI (b.2.1 0 0 + 1)) r = f r := by
    intro r h1 h2 h3
    rw [ol_u2_a _ _ h1, ol_u2_a _ _ h2, ol_u2_a _ _ h3]
  rw [F 34 (by decide) (by decide) (by decide), F 35 (by decide) (by decide) (by decide), F 36 (by decide) (by decide) (by decide), F 37 (by decide) (by decide) (by decide), F 38 (by decide) (by decide) (by decide), F 39 (by decide) (by decide) (by decide), F 40 (by decide) (by decide) (by decide), ol_u2_s]
  refine ⟨rfl, a2, a3, ?_, ?_, a6, a7, a8⟩
  · intro k hk
    rw [ol_u2_a _ _ (show 32 ≠ 31 by decide)]
    by_cases e : k = b.2.1 0 0
    · subst e
      rw [ol_u2_s, va_up_self]
    · rw [ol_u2_k _ _ (by omega), ol_u2_a _ _ (show 32 ≠ 33 by decide), va_up_ne _ _ e]
      exact a4 k (by omega)
  · intro t ht
    rw [ol_u2_a _ _ (show 33 ≠ 31 by decide), ol_u2_a _ _ (show 33 ≠ 32 by decide)]
    by_cases e : t = u
    · subst e
      rw [ol_u2_s, va_up_self]
      rfl
    · rw [ol_u2_k _ _ (by omega), va_up_ne _ _ e]
      exact a5 t ht
/-- an arc's rows -/
theorem ol_MG.arc {f : Nat → Nat → Int32} {g u : Nat} {b : ol_B} {kc kf : Nat} (w br : Int32) (h : ol_MG f g (sp_find b u) kc kf) (e1' : (sp_find b u).2.1 0 1 = b.2.1 0 1) (ev : (sp_find b u).2.2.1 = b.2.2.1) : ol_MG (ol_u2 (ol_u2 (ol_u2 (ol_u2 f 37 (240 * g + b.2.1 0 1) (nI (sp_no b u))) 38 (240 * g + b.2.1 0 1) w) 39 (240 * g + b.2.1 0 1) br) 36 g (nI (b.2.1 0 1 + 1))) g (sp_arc b u w br) kc kf := by
  obtain ⟨a1, a2, a3, a4, a5, a6, a7, a8⟩ := h
  have e0 : (sp_arc b u w br).2.1 0 0 = (sp_find b u).2.1 0 0 := by rw [sp_arc_N, ol_u2_k _ _ (by decide), ol_u2_a _ _ (by decide)]
  have e1 : (sp_arc b u w br).2.1 0 1 = b.2.1 0 1 + 1 := by rw [sp_arc_N, ol_u2_s]
  have e2 : (sp_arc b u w br).2.1 0 2 = (sp_find b u).2.1 0 2 := by rw [sp_arc_N, ol_u2_k _ _ (by decide), ol_u2_a _ _ (by decide)]
  have r1 : (sp_arc b u w br).2.1 1 = (sp_find b u).2.1 1 := by rw [sp_arc_N, ol_u2_a _ _ (by decide), ol_u2_a _ _ (by decide)]
  have r2 : (sp_arc b u w br).2.1 2 = (sp_find b u).2.1 2 := by rw [sp_arc_N, ol_u2_a _ _ (by decide), ol_u2_a _ _ (by decide)]
  have r3 : (sp_arc b u w br).2.1 3 = va_up ((sp_find b u).2.1 3) (b.2.1 0 1) (sp_no b u) := by rw [sp_arc_N, ol_u2_a _ _ (by decide), ol_u2_r]
  have rv : (sp_arc b u w br).2.2.1 = ol_u2 (ol_u2 b.2.2.1 1 (b.2.1 0 1) w) 2 (b.2.1 0 1) br := rfl
  have ro' : (sp_arc b u w br).2.2.2 = (sp_find b u).2.2.2 := rfl
  unfold ol_MG
  rw [e0, e1, e2, r1, r2, r3, rv, ro']
  have F : ∀ r, r ≠ 36 → r ≠ 37 → r ≠ 38 → r ≠ 39 → ol_u2 (ol_u2 (ol_u2 (ol_u2 f 37 (240 * g + b.2.1 0 1) (nI (sp_no b u))) 38 (240 * g + b.2.1 0 1) w) 39 (240 * g + b.2.1 0 1) br) 36 g (nI (b.2.1 0 1 + 1)) r = f r := by
    intro r h1 h2 h3 h4
    rw [ol_u2_a _ _ h1, ol_u2_a _ _ h4, ol_u2_a _ _ h3, ol_u2_a _ _ h2]
  rw [F 31 (by decide) (by decide) (by decide) (by decide), F 32 (by decide) (by decide) (by decide) (by decide), F 33 (by decide) (by decide) (by decide) (by decide), F 34 (by decide) (by decide) (by decide) (by decide), F 35 (by decide) (by decide) (by decide) (by decide), F 40 (by decide) (by decide) (by decide) (by decide), ol_u2_s]
  refine ⟨a1, rfl, a3, a4, a5, ?_, a7, ?_⟩
  · rw [ol_u2_a _ _ (show 0 ≠ 2 by decide), ol_u2_a _ _ (show 0 ≠ 1 by decide), ← ev]
    exact a6
  · intro a ha
    rw [ol_u2_a _ _ (show 37 ≠ 36 by decide), ol_u2_a _ _ (show 37 ≠ 39 by decide), ol_u2_a _ _ (show 37 ≠ 38 by decide), ol_u2_a _ _ (show 38 ≠ 36 by decide), ol_u2_a _ _ (show 38 ≠ 39 by decide), ol_u2_a _ _ (show 39 ≠ 36 by decide), ol_u2_a _ _ (show 1 ≠ 2 by decide)]
    by_cases e : a = b.2.1 0 1
    · subst e
      rw [ol_u2_s, ol_u2_s, ol_u2_s, ol_u2_s, ol_u2_s, va_up_self]
      exact ⟨rfl, rfl, rfl⟩
    · have hA := a8 a (by rw [e1']; omega)
      have d : 240 * g + a ≠ 240 * g + b.2.1 0 1 := by omega
      refine ⟨?_, ?_, ?_⟩
      · rw [ol_u2_k _ _ d, va_up_ne _ _ e]
        exact hA.1
      · rw [ol_u2_k _ _ d, ol_u2_a _ _ (show 38 ≠ 37 by decide), ol_u2_k _ _ e, ← ev]
        exact hA.2.1
      · rw [ol_u2_k _ _ d, ol_u2_a _ _ (show 39 ≠ 38 by decide), ol_u2_a _ _ (show 39 ≠ 37 by decide), ol_u2_k _ _ e, ol_u2_a _ _ (show 2 ≠ 1 by decide), ← ev]
        exact hA.2.2
def ol_vf (I : Nat → Nat → Int32) (ad : Nat → Nat) : Nat → Nat → Int32 := fun r => I (ad r)
theorem ol_vu {ro : Nat → Nat} {F : Nat → Nat → Option Nat} {ad : Nat → Nat} (hL : ol_L ro F ad) (I : Nat → Nat → Int32) {r0 r : Nat} (k : Nat) (v : Int32) (h0 : r0 ∈ ol_uq) (hr : r ∈ ol_uq) : ol_vf (ol_u2 I (ad r0) k v) ad r = ol_u2 (ol_vf I ad) r0 k v r := by
  show ol_u2 I (ad r0) k v (ad r) = ol_u2 (ol_vf I ad) r0 k v r
  by_cases e : r = r0
  · subst e
    rw [ol_u2_r, ol_u2_r]
    rfl
  · rw [ol_u2_a _ _ (hL.ne hr h0 e), ol_u2_a _ _ e]
    rfl
theorem ol_MG.vu {ro : Nat → Nat} {F : Nat → Nat → Option Nat} {ad : Nat → Nat} (hL : ol_L ro F ad) {I : Nat → Nat → Int32} {r0 k : Nat} {v : Int32} (h0 : r0 ∈ ol_uq) {g : Nat} {b : ol_B} {kc kf : Nat} (h : ol_MG (ol_u2 (ol_vf I ad) r0 k v) g b kc kf) : ol_MG (ol_vf (ol_u2 I (ad r0) k v) ad) g b kc kf :=
  h.congr (fun r hr => ol_vu hL I k v h0 ((show ∀ z ∈ [31, 32, 33, 34, 35, 36, 37, 38, 39, 40], z ∈ ol_uq by decide) r hr))
/-- two updates and more, one behind another -/
theorem ol_u2_cg {f f' : Nat → Nat → Int32} {R : List Nat} (h : ∀ r ∈ R, f' r = f r) (r0 k : Nat) (v : Int32) : ∀ r ∈ R, ol_u2 f' r0 k v r = ol_u2 f r0 k v r := by
  intro r hr
  by_cases e : r = r0
  · subst e
    rw [ol_u2_r, ol_u2_r, h r hr]
  · rw [ol_u2_a _ _ e, ol_u2_a _ _ e]
    exact h r hr
/-- what a load of slot g may touch beside the scratch -/
def ol_tg (ad : Nat → Nat) (g a k : Nat) : Prop := (ol_Sc ad a k ∨ a = ad 41) ∨ a = ad 28 ∨ (a = ad 31 ∧ k = g) ∨ (a = ad 36 ∧ k = g) ∨ (a = ad 40 ∧ k = g) ∨ (a = ad 32 ∧ 40 * g ≤ k ∧ k < 40 * g + 40) ∨ (a = ad 33 ∧ 40 * g ≤ k ∧ k < 40 * g + 40) ∨ (a = ad 34 ∧ 40 * g ≤ k ∧ k < 40 * g + 40) ∨ (a = ad 35 ∧ 41 * g ≤ k ∧ k < 41 * g + 41) ∨ ((a = ad 37 ∨ a = ad 38 ∨ a = ad 39) ∧ 240 * g ≤ k ∧ k < 240 * g + 240)
def ol_fm (ad : Nat → Nat) (g : Nat) (I I' : Nat → Nat → Int32) : Prop := ∀ a k, ¬ ol_tg ad g a k → I' a k = I a k
theorem ol_fm_rf (ad : Nat → Nat) (g : Nat) (I : Nat → Nat → Int32) : ol_fm ad g I I := fun _ _ _ => rfl
theorem ol_fm.up {ad : Nat → Nat} {g : Nat} {I I' : Nat → Nat → Int32} (h : ol_fm ad g I I') {a k : Nat} (v : Int32) (hs : ol_tg ad g a k) : ol_fm ad g I (ol_u2 I' a k v) := by
  intro b j hb
  rw [ol_u2_v]
  split
  · rename_i q
    exact absurd (q.1 ▸ q.2 ▸ hs) hb
  · exact h b j hb
theorem ol_fm.sq {ad : Nat → Nat} {g : Nat} {I I' I'' : Nat → Nat → Int32} (h : ol_fm ad g I I') (h2 : ol_sq ad I' I'') : ol_fm ad g I I'' := fun a k hs => (h2 a k (fun q => hs (Or.inl (Or.inl q)))).trans (h a k hs)
theorem ol_tg_asked (ad : Nat → Nat) (g k : Nat) : ol_tg ad g (ad 28) k := Or.inr (Or.inl rfl)
theorem ol_tg_nodes (ad : Nat → Nat) (g : Nat) : ol_tg ad g (ad 31) g := Or.inr (Or.inr (Or.inl ⟨rfl, rfl⟩))
theorem ol_tg_arcs (ad : Nat → Nat) (g : Nat) : ol_tg ad g (ad 36) g := Or.inr (Or.inr (Or.inr (Or.inl ⟨rfl, rfl⟩)))
theorem ol_tg_holes (ad : Nat → Nat) (g : Nat) : ol_tg ad g (ad 40) g := Or.inr (Or.inr (Or.inr (Or.inr (Or.inl ⟨rfl, rfl⟩))))
theorem ol_tg_32 (ad : Nat → Nat) (g : Nat) {k : Nat} (h : k < 40) : ol_tg ad g (ad 32) (40 * g + k) := Or.inr (Or.inr (Or.inr (Or.inr (Or.inr (Or.inl ⟨rfl, by omega, by omega⟩)))))
theorem ol_tg_33 (ad : Nat → Nat) (g : Nat) {k : Nat} (h : k < 40) : ol_tg ad g (ad 33) (40 * g + k) := Or.inr (Or.inr (Or.inr (Or.inr (Or.inr (Or.inr (Or.inl ⟨rfl, by omega, by omega⟩))))))
theorem ol_tg_34 (ad : Nat → Nat) (g : Nat) {k : Nat} (h : k < 40) : ol_tg ad g (ad 34) (40 * g + k) := Or.inr (Or.inr (Or.inr (Or.inr (Or.inr (Or.inr (Or.inr (Or.inl ⟨rfl, by omega, by omega⟩)))))))
theorem ol_tg_35 (ad : Nat → Nat) (g : Nat) {k : Nat} (h : k < 41) : ol_tg ad g (ad 35) (41 * g + k) := Or.inr (Or.inr (Or.inr (Or.inr (Or.inr (Or.inr (Or.inr (Or.inr (Or.inl ⟨rfl, by omega, by omega⟩))))))))
theorem ol_tg_37 {ad : Nat → Nat} (g : Nat) {a k : Nat} (ha : a = ad 37 ∨ a = ad 38 ∨ a = ad 39) (h : k < 240) : ol_tg ad g a (240 * g + k) := Or.inr (Or.inr (Or.inr (Or.inr (Or.inr (Or.inr (Or.inr (Or.inr (Or.inr ⟨ha, by omega, by omega⟩))))))))
/-- the things, the askings as A -/
theorem ol_MT.ask {ro : Nat → Nat} {F : Nat → Nat → Option Nat} {ad : Nat → Nat} (hL : ol_L ro F ad) {I : Nat → Nat → Int32} {n : Nat} {So : Nat → Nat} {T : Nat → Nat → Int32} {P : Nat → Nat → Option Nat} {A : Nat → Int32} (h : ol_MT I ad n So (va_up T 4 A) P) (u : Nat) : ol_MT (ol_u2 I (ad 28) u (A u + 1)) ad n So (va_up T 4 (va_up A u (A u + 1))) P := by
  have N : ∀ r, r ∈ [10, 22, 23, 24, 25, 26, 27] → ol_u2 I (ad 28) u (A u + 1) (ad r) = I (ad r) := by
    intro r hr
    have h2 : r ∈ ol_uq ∧ r ≠ 28 := by
      revert r
      decide
    exact ol_u2_a _ _ (hL.ne h2.1 (by decide) h2.2)
  refine ⟨by rw [N 10 (by decide)]; exact h.1, fun t ht => ?_⟩
  obtain ⟨a1, a2, a3, a4, a5, a6, a7⟩ := h.2 t ht
  refine ⟨by rw [N 22 (by decide)]; exact a1, by rw [N 23 (by decide)]; exact a2, by rw [N 24 (by decide)]; exact a3, by rw [N 27 (by decide)]; exact a4, ?_, by rw [N 25 (by decide)]; exact a6, by rw [N 26 (by decide)]; exact a7⟩
  rw [va_up_self]
  rw [va_up_self] at a5
  by_cases e : t = u
  · subst e
    rw [ol_u2_s, va_up_self]
  · rw [ol_u2_k _ _ e, va_up_ne _ _ e]
    exact a5
/-- a row that the things don't stand in -/
theorem ol_MT.off {ro : Nat → Nat} {F : Nat → Nat → Option Nat} {ad : Nat → Nat} (hL : ol_L ro F ad) {I : Nat → Nat → Int32} {n : Nat} {So : Nat → Nat} {T : Nat → Nat → Int32} {P : Nat → Nat → Option Nat} (h : ol_MT I ad n So T P) {r0 : Nat} (k : Nat) (v : Int32) (h0 : r0 ∈ ol_uq) (hn : r0 ∉ [10, 22, 23, 24, 25, 26, 27, 28]) : ol_MT (ol_u2 I (ad r0) k v) ad n So T P := by
  have N : ∀ r, r ∈ [10, 22, 23, 24, 25, 26, 27, 28] → ol_u2 I (ad r0) k v (ad r) = I (ad r) := by
    intro r hr
    have h2 : r ∈ ol_uq := (show ∀ z ∈ [10, 22, 23, 24, 25, 26, 27, 28], z ∈ ol_uq by decide) r hr
    exact ol_u2_a _ _ (hL.ne h2 h0 (fun q => hn (q ▸ hr)))
  unfold ol_MT
  rw [N 10 (by decide), N 22 (by decide), N 23 (by decide), N 24 (by decide), N 25 (by decide), N 26 (by decide), N 27 (by decide), N 28 (by decide)]
  exact h
