/-- a stretch of n places from a on that are all there -/
def ol_stt (a n : Int32) : Prop := ∃ ka kn : Nat, a = nI ka ∧ n = nI kn ∧ ka + kn ≤ 6
theorem ol_stt_iff {a n : Int32} : (¬ a < 0 ∧ ¬ n < 0 ∧ ¬ 6 < n ∧ ¬ 6 - n < a) ↔ ol_stt a n := by
  constructor
  · rintro ⟨h1, h2, h3, h4⟩
    obtain ⟨ka, k1, rfl⟩ := nI_of h1
    obtain ⟨kn, k2, rfl⟩ := nI_of h2
    have h5 : kn ≤ 6 := by
      rcases Nat.lt_or_ge 6 kn with q | q
      · exact absurd (nI_lt q k2) h3
      · exact q
    have h6 : ka ≤ 6 - kn := by
      have e : (6 : Int32) - nI kn = nI (6 - kn) := pk_sub (a := 6) h5
      rw [e] at h4
      rcases Nat.lt_or_ge (6 - kn) ka with q | q
      · exact absurd (nI_lt q k1) h4
      · exact q
    exact ⟨ka, kn, rfl, rfl, by omega⟩
  · rintro ⟨ka, kn, rfl, rfl, h⟩
    have e : (6 : Int32) - nI kn = nI (6 - kn) := pk_sub (a := 6) (by omega)
    refine ⟨nI_pos (by omega), nI_pos (by omega), nI_nlt (a := 6) (b := kn) (by omega) (by omega) |> fun q => ?_, ?_⟩
    · intro z
      exact absurd ((nI_ltI (a := 6) (by omega) (by omega)).mp z) (by omega)
    · rw [e]
      intro z
      exact absurd ((nI_ltI (by omega) (by omega)).mp z) (by omega)
theorem ol_stt_ge {a n : Int32} (h : ol_stt a n) : ¬ a < 0 ∧ ¬ n < 0 ∧ ¬ 6 < a ∧ ¬ 6 < n ∧ ¬ 6 < a + n := by
  obtain ⟨ka, kn, rfl, rfl, h⟩ := h
  refine ⟨nI_pos (by omega), nI_pos (by omega), fun z => ?_, fun z => ?_, fun z => ?_⟩
  · exact absurd ((nI_ltI (a := 6) (by omega) (by omega)).mp z) (by omega)
  · exact absurd ((nI_ltI (a := 6) (by omega) (by omega)).mp z) (by omega)
  · rw [nI_add] at z
    exact absurd ((nI_ltI (a := 6) (by omega) (by omega)).mp z) (by omega)
theorem ol_stt_of {a n : Int32} (h1 : ¬ a < 0) (h2 : ¬ n < 0) (h3 : ¬ 6 < a) (h4 : ¬ 6 < n) (h5 : ¬ 6 < a + n) : ol_stt a n := by
  obtain ⟨ka, k1, rfl⟩ := nI_of h1
  obtain ⟨kn, k2, rfl⟩ := nI_of h2
  have q1 : ka ≤ 6 := by
    rcases Nat.lt_or_ge 6 ka with q | q
    · exact absurd (nI_lt q k1) h3
    · exact q
  have q2 : kn ≤ 6 := by
    rcases Nat.lt_or_ge 6 kn with q | q
    · exact absurd (nI_lt q k2) h4
    · exact q
  refine ⟨ka, kn, rfl, rfl, ?_⟩
  rw [nI_add] at h5
  rcases Nat.lt_or_ge 6 (ka + kn) with q | q
  · exact absurd (nI_lt q (by omega)) h5
  · exact q
theorem ol_le_nlt {x y : Int32} (h : x ≤ y) : ¬ y < x := by
  rw [Int32.le_iff_toInt_le] at h
  rw [Int32.lt_iff_toInt_lt]
  omega
theorem ol_nle_lt {x y : Int32} (h : ¬ x ≤ y) : y < x := by
  rw [Int32.le_iff_toInt_le] at h
  rw [Int32.lt_iff_toInt_lt]
  omega
/-- m of the n places from a on of t may be stored into o's: all, or those ahead of the first bridge if o is masked -/
def ol_cp (So : Nat → Nat) (P : Nat → Nat → Option Nat) (t a o n m : Nat) : Prop := m ≤ n ∧ (∀ i, i < m → ¬ (So o = 4 ∧ ol_br So (P (1 + (a + i)) t))) ∧ (m < n → So o = 4 ∧ ol_br So (P (1 + (a + m)) t))
theorem ol_cp_uq {So : Nat → Nat} {P : Nat → Nat → Option Nat} {t a o n m m' : Nat} (h : ol_cp So P t a o n m) (h' : ol_cp So P t a o n m') : m = m' := by
  rcases Nat.lt_trichotomy m m' with q | q | q
  · exact absurd (h.2.2 (by have := h'.1; omega)) (h'.2.1 m q)
  · exact q
  · exact absurd (h'.2.2 (by have := h.1; omega)) (h.2.1 m' q)
theorem ol_maa {c : Int32} {k t u v : Nat} (hc : c = nI k) : c * nI t + nI u + nI v = nI (k * t + (u + v)) := by rw [ol_ma hc, nI_add, Nat.add_assoc]
