/-! THE PURE PICTURE: n things; So t the sort, T 1 t the key, T 2 t the V, T 3 t whether held, T 4 t how often asked; P 0 t the next, P (1 + i) t place i -/
def ol_br (So : Nat → Nat) (q : Option Nat) : Prop := ∃ u, q = some u ∧ So u = 2
/-- why its links fail, how many they are, which -/
noncomputable def sp_lc (So : Nat → Nat) (T : Nat → Nat → Int32) (P : Nat → Nat → Option Nat) (t : Nat) : Int32 := ol_if (So t = 5) (ol_if (ol_k 6 (T 2 t)) 0 2) (ol_if (So t = 1 ∨ So t = 4) (ol_if (So t = 4 ∧ ∃ i, i < 6 ∧ ol_br So (P (1 + i) t)) 3 0) (ol_if (ol_br So (P 0 t)) 3 0))
noncomputable def sp_ln (So : Nat → Nat) (P : Nat → Nat → Option Nat) (t : Nat) : Nat := ol_if (So t = 5) 1 (ol_if (So t = 1 ∨ So t = 4) 6 (ol_if (P 0 t = none) 0 1))
noncomputable def sp_lk (So : Nat → Nat) (T : Nat → Nat → Int32) (P : Nat → Nat → Option Nat) (t i : Nat) : Option Nat := ol_if (So t = 5) (P (1 + (T 2 t).toNatClampNeg) t) (ol_if (So t = 1 ∨ So t = 4) (P (1 + i) t) (P 0 t))
/-- key: why it fails; value: why it fails, what it is -/
noncomputable def sp_kc (So : Nat → Nat) (T : Nat → Nat → Int32) (t : Nat) : Int32 := ol_p (So t = 6 ∧ T 3 t = 0)
noncomputable def sp_vc (So : Nat → Nat) (T : Nat → Nat → Int32) (t : Nat) : Int32 := ol_if (So t = 3 ∧ T 2 t = 0) 4 0
noncomputable def sp_vv (So : Nat → Nat) (T : Nat → Nat → Int32) (t : Nat) : Int32 := ol_if (So t = 3) (ol_if (T 2 t = 0) 0 (100 / T 2 t)) (ol_if (So t = 1) (2 * T 2 t) (ol_if (So t = 4) (2 * T 2 t + 1) (T 2 t)))
/-- a bridge's other end for a node -/
noncomputable def sp_en (P : Nat → Nat → Option Nat) (b t : Nat) : Option Nat := ol_if (P 1 b = some t) (P 2 b) (P 1 b)
/-- the references stay among the n things; sorts are 0 to 6; held is 0 or 1 -/
def ol_V (n : Nat) (So : Nat → Nat) (T : Nat → Nat → Int32) (P : Nat → Nat → Option Nat) : Prop := n ≤ 40 ∧ ∀ t, t < n → So t ≤ 6 ∧ (T 3 t = 0 ∨ T 3 t = 1) ∧ ∀ j, j < 7 → ∀ u, P j t = some u → u < n
/-- the things as the reference holds them -/
def ol_MT (I : Nat → Nat → Int32) (ad : Nat → Nat) (n : Nat) (So : Nat → Nat) (T : Nat → Nat → Int32) (P : Nat → Nat → Option Nat) : Prop :=
  I (ad 10) 0 = nI n ∧ ∀ t, t < n → I (ad 22) t = nI (So t) ∧ I (ad 23) t = T 1 t ∧ I (ad 24) t = T 2 t ∧ I (ad 27) t = T 3 t ∧ I (ad 28) t = T 4 t ∧ I (ad 25) t = ol_e (P 0 t) ∧ ∀ i, i < 6 → I (ad 26) (6 * t + i) = ol_e (P (1 + i) t)
/-- the reference's scratch: told, linkMany, moved, links -/
def ol_Sc (ad : Nat → Nat) (a k : Nat) : Prop := (a = ad 10 ∧ (k = 9 ∨ k = 11)) ∨ a = ad 29 ∨ a = ad 30
def ol_sq (ad : Nat → Nat) (I I' : Nat → Nat → Int32) : Prop := ∀ a k, ¬ ol_Sc ad a k → I' a k = I a k
theorem ol_sq_rf (ad : Nat → Nat) (I : Nat → Nat → Int32) : ol_sq ad I I := fun _ _ _ => rfl
theorem ol_sq.up {ad : Nat → Nat} {I I' : Nat → Nat → Int32} (h : ol_sq ad I I') {a k : Nat} (v : Int32) (hs : ol_Sc ad a k) : ol_sq ad I (ol_u2 I' a k v) := by
  intro b j hb
  rw [ol_u2_v]
  split
  · rename_i q
    exact absurd (q.1 ▸ q.2 ▸ hs) hb
  · exact h b j hb
theorem ol_sq.trans {ad : Nat → Nat} {I I' I'' : Nat → Nat → Int32} (h : ol_sq ad I I') (h2 : ol_sq ad I' I'') : ol_sq ad I I'' := fun a k hs => (h2 a k hs).trans (h a k hs)
/-- a row of a role that is no scratch -/
theorem ol_sq.row {ro : Nat → Nat} {F : Nat → Nat → Option Nat} {ad : Nat → Nat} (hL : ol_L ro F ad) {I I' : Nat → Nat → Int32} (h : ol_sq ad I I') (r k : Nat) (hr : r ∈ ol_uq) (h1 : r ≠ 10) (h2 : r ≠ 29) (h3 : r ≠ 30) : I' (ad r) k = I (ad r) k := by
  refine h _ _ (fun q => ?_)
  rcases q with ⟨q, -⟩ | q | q
  · exact hL.ne hr (by decide) h1 q
  · exact hL.ne hr (by decide) h2 q
  · exact hL.ne hr (by decide) h3 q
theorem ol_sq.mo {ro : Nat → Nat} {F : Nat → Nat → Option Nat} {ad : Nat → Nat} (hL : ol_L ro F ad) {I I' : Nat → Nat → Int32} (h : ol_sq ad I I') (k : Nat) (h1 : k ≠ 9) (h2 : k ≠ 11) : I' (ad 10) k = I (ad 10) k := by
  refine h _ _ (fun q => ?_)
  rcases q with ⟨-, q⟩ | q | q
  · exact q.elim h1 h2
  · exact hL.ne (r := 10) (by decide) (by decide) (by decide) q
  · exact hL.ne (r := 10) (by decide) (by decide) (by decide) q
theorem ol_MT.sq {ro : Nat → Nat} {F : Nat → Nat → Option Nat} {ad : Nat → Nat} (hL : ol_L ro F ad) {I I' : Nat → Nat → Int32} (h : ol_sq ad I I') {n : Nat} {So : Nat → Nat} {T : Nat → Nat → Int32} {P : Nat → Nat → Option Nat} (hT : ol_MT I ad n So T P) : ol_MT I' ad n So T P := by
  refine ⟨(h.mo hL 0 (by decide) (by decide)).trans hT.1, fun t ht => ?_⟩
  obtain ⟨a1, a2, a3, a4, a5, a6, a7⟩ := hT.2 t ht
  have rw' : ∀ r k, r ∈ [22, 23, 24, 25, 26, 27, 28] → I' (ad r) k = I (ad r) k := by
    intro r k hr
    have h2 : r ∈ ol_uq ∧ r ≠ 10 ∧ r ≠ 29 ∧ r ≠ 30 := by
      revert r
      decide
    exact h.row hL r k h2.1 h2.2.1 h2.2.2.1 h2.2.2.2
  exact ⟨(rw' 22 _ (by decide)).trans a1, (rw' 23 _ (by decide)).trans a2, (rw' 24 _ (by decide)).trans a3, (rw' 27 _ (by decide)).trans a4, (rw' 28 _ (by decide)).trans a5, (rw' 25 _ (by decide)).trans a6, fun i hi => (rw' 26 _ (by decide)).trans (a7 i hi)⟩
theorem ol_nIk {a k : Nat} (ha : a ≤ 6) (hk : k ≤ 6) : nI a = nI k ↔ a = k := nI_eq (by omega) (by omega)
theorem ol_brI {I : Nat → Nat → Int32} {ad : Nat → Nat} {n : Nat} {So : Nat → Nat} {T : Nat → Nat → Int32} {P : Nat → Nat → Option Nat} (hT : ol_MT I ad n So T P) (hV : ol_V n So T P) {q : Option Nat} (hq : ∀ u, q = some u → u < n) : (∃ u, q = some u ∧ I (ad 22) u = 2) ↔ ol_br So q := by
  constructor
  · rintro ⟨u, h1, h2⟩
    rw [(hT.2 u (hq u h1)).1] at h2
    exact ⟨u, h1, (ol_nIk (k := 2) (hV.2 u (hq u h1)).1 (by decide)).mp h2⟩
  · rintro ⟨u, h1, h2⟩
    refine ⟨u, h1, ?_⟩
    rw [(hT.2 u (hq u h1)).1, h2]
    rfl
theorem ol_e_eq {q : Option Nat} {t : Nat} (hq : ∀ u, q = some u → u < 2 ^ 31) (ht : t < 2 ^ 31) : (ol_e q = nI t) ↔ q = some t := by
  cases q with
  | none =>
    constructor
    · intro h
      exact absurd h.symm (ol_nI_none ht)
    · intro h
      cases h
  | some u =>
    show nI u = nI t ↔ some u = some t
    rw [nI_eq (hq u rfl) ht]
    exact ⟨fun h => by rw [h], fun h => Option.some.inj h⟩
