/-! THE LAYOUT: the cells that are there once, by their roles; ad r is the address of the cell of role r -/
def ol_uq : List Nat := [1, 10, 11, 22, 23, 24, 25, 26, 27, 28, 29, 30, 31, 32, 33, 34, 35, 36, 37, 38, 39, 40, 41, 42, 50, 51, 52, 53, 54, 55, 56, 57, 58, 59, 60, 61, 62, 63, 64, 65, 66, 67, 68, 69]
/-- the reference's rows: which field, which role -/
def ol_mt : List (Nat × Nat) := [(1, 22), (2, 23), (3, 24), (4, 25), (5, 26), (6, 27), (7, 28), (8, 29), (10, 30), (13, 31), (14, 32), (15, 33), (16, 34), (17, 35), (18, 36), (19, 37), (20, 38), (21, 39), (22, 40), (27, 41), (28, 42)]
def ol_L (ro : Nat → Nat) (F : Nat → Nat → Option Nat) (ad : Nat → Nat) : Prop :=
  (∀ r ∈ ol_uq, ro (ad r) = r) ∧ F (ad 1) 0 = some (ad 11) ∧ (∀ b ∈ [50, 60], ∀ j ∈ [0, 1, 2, 3, 4, 5, 6, 7, 8], F (ad b) j = some (ad (b + 1 + j))) ∧ ∀ q ∈ ol_mt, F (ad 10) q.1 = some (ad q.2)
theorem ol_L.is {ro : Nat → Nat} {F : Nat → Nat → Option Nat} {ad : Nat → Nat} (h : ol_L ro F ad) (r : Nat) {x : Nat ⊕ (Nat × Nat)} (hr : r ∈ ol_uq) (h0 : r ≠ 0) (hx : ol_ct r = x) : ol_is ro (ad r) x := ol_is_of (h.1 r hr) h0 hx
theorem ol_L.ne {ro : Nat → Nat} {F : Nat → Nat → Option Nat} {ad : Nat → Nat} (h : ol_L ro F ad) {r q : Nat} (hr : r ∈ ol_uq) (hq : q ∈ ol_uq) (hn : r ≠ q) : ad r ≠ ad q := fun e => hn (by rw [← h.1 r hr, ← h.1 q hq, e])
theorem ol_L.mf {ro : Nat → Nat} {F : Nat → Nat → Option Nat} {ad : Nat → Nat} (h : ol_L ro F ad) (k r : Nat) (hk : (k, r) ∈ ol_mt) : F (ad 10) k = some (ad r) := h.2.2.2 (k, r) hk
theorem ol_L.gf {ro : Nat → Nat} {F : Nat → Nat → Option Nat} {ad : Nat → Nat} (h : ol_L ro F ad) (b j : Nat) (hb : b ∈ [50, 60]) (hj : j ∈ [0, 1, 2, 3, 4, 5, 6, 7, 8]) : F (ad b) j = some (ad (b + 1 + j)) := h.2.2.1 b hb j hj
/-- t is the number of a thing, where there are n -/
def ol_k (n : Nat) (t : Int32) : Prop := ¬ t < 0 ∧ ¬ nI n ≤ t
theorem ol_k_ix {n : Nat} {t : Int32} (h : ol_k n t) (hn : n ≤ 40) : ∃ j, j < n ∧ t = nI j ∧ j < 2 ^ 31 := by
  obtain ⟨j, h1, h2⟩ := ol_ix (k := n) h rfl hn
  exact ⟨j, h1, h2, by omega⟩
theorem ol_k_nI {n j : Nat} (hn : n ≤ 2 ^ 30) (hj : j < n) : ol_k n (nI j) := ⟨nI_pos (by omega), fun q => absurd ((nI_leI (by omega) (by omega)).mp q) (by omega)⟩
theorem ol_m1 {n : Nat} {t : Int32} (hn : n < 2 ^ 30) : (nI n - 1 < t) ↔ (t < 0 ∧ nI n - 1 < t) ∨ nI n ≤ t := by
  have e1 : (nI n - 1).toInt = (n : Int) - 1 := by
    have := pk_sub_toInt (a := n) (b := 1) (by omega) (by omega)
    exact this
  have e2 : (nI n).toInt = (n : Int) := nI_toInt (by omega)
  rw [Int32.lt_iff_toInt_lt, Int32.lt_iff_toInt_lt, Int32.le_iff_toInt_le, e1, e2, Int32.toInt_zero]
  omega
theorem ol_k_m1 {n : Nat} {t : Int32} (hn : n < 2 ^ 30) : (¬ t < 0 ∧ ¬ nI n - 1 < t) ↔ ol_k n t := by
  unfold ol_k
  rw [ol_m1 hn]
  constructor
  · rintro ⟨h1, h2⟩
    exact ⟨h1, fun q => h2 (Or.inr q)⟩
  · rintro ⟨h1, h2⟩
    exact ⟨h1, fun q => q.elim (fun z => h1 z.1) h2⟩
theorem ol_p_c {P Q : Prop} (h : P ↔ Q) : ol_p P = ol_p Q := by rw [propext h]
theorem ol_40 {n : Nat} (h : n ≤ 40) : n < 2 ^ 30 := by omega
/-- a thing's number, or NONE -/
def ol_e (q : Option Nat) : Int32 := match q with
  | none => -1000009
  | some u => nI u
theorem ol_nI_none {u : Nat} (h : u < 2 ^ 31) : ¬ nI u = -1000009 := fun q => nI_pos h (by rw [q]; decide)
theorem ol_e_n {q : Option Nat} (hq : ∀ u, q = some u → u < 2 ^ 31) (h : ol_e q = -1000009) : q = none := by
  cases q with
  | none => rfl
  | some u => exact absurd h (ol_nI_none (hq u rfl))
theorem ol_e_s {q : Option Nat} (h : ¬ ol_e q = -1000009) : ∃ u, q = some u ∧ ol_e q = nI u := by
  cases q with
  | none => exact absurd rfl h
  | some u => exact ⟨u, rfl, rfl⟩
theorem ol_m {c : Int32} {k t : Nat} (hc : c = nI k) : c * nI t = nI (k * t) := by rw [hc]; exact pk_mul k t
theorem ol_ma {c : Int32} {k t u : Nat} (hc : c = nI k) : c * nI t + nI u = nI (k * t + u) := by rw [ol_m hc]; exact nI_add _ _
theorem ol_nI0 {n : Nat} (h : nI n = 0) (h40 : n ≤ 40) : n = 0 := Classical.byContradiction fun q => nI_ne0 (Nat.pos_of_ne_zero q) (by omega) h
theorem ol_nge {x : Int32} (h : ¬ 0 ≤ x) : x < 0 := by
  rw [Int32.le_iff_toInt_le] at h
  rw [Int32.lt_iff_toInt_lt]
  omega
theorem ol_nlt {x : Int32} (h : 0 ≤ x) : ¬ x < 0 := by
  rw [Int32.le_iff_toInt_le] at h
  rw [Int32.lt_iff_toInt_lt]
  omega
theorem ol_k_5 {i : Int32} : (¬ i < 0 ∧ ¬ 5 < i) ↔ ol_k 6 i := ol_k_m1 (n := 6) (by decide)
theorem ol_k_2 {i : Int32} : (¬ i < 0 ∧ ¬ 2 < i) ↔ ol_k 3 i := ol_k_m1 (n := 3) (by decide)
