/-! WAYS, purely: arcs fA y to fA (y + 1) are node y's, arc e leads to E e; x is reached from fr by k arcs -/
def sp_wk (E fA : Nat → Nat) (fr : Nat) : Nat → Nat → Prop
  | 0, x => x = fr
  | k + 1, x => ∃ y e, sp_wk E fA fr k y ∧ fA y ≤ e ∧ e < fA (y + 1) ∧ E e = x
/-- f x is the least number of arcs by which x is reached -/
def sp_DF (E fA : Nat → Nat) (fr : Nat) (f : Nat → Option Nat) : Prop := (∀ x k, f x = some k → sp_wk E fA fr k x) ∧ ∀ k x, sp_wk E fA fr k x → ∃ b, b ≤ k ∧ f x = some b
theorem sp_DF.uq {E fA : Nat → Nat} {fr : Nat} {f f' : Nat → Option Nat} (h : sp_DF E fA fr f) (h' : sp_DF E fA fr f') (x : Nat) : f x = f' x := by
  cases hx : f x with
  | some k =>
    obtain ⟨b, hb, e⟩ := h'.2 k x (h.1 x k hx)
    obtain ⟨c, hc, e2⟩ := h.2 b x (h'.1 x b e)
    have : k = c := Option.some.inj (hx.symm.trans e2)
    rw [e, show b = k by omega]
  | none =>
    cases hx' : f' x with
    | none => rfl
    | some k =>
      obtain ⟨b, hb, e⟩ := h.2 k x (h'.1 x k hx')
      rw [hx] at e
      cases e
theorem sp_wk_lt {n : Nat} {b : ol_B} (hW : ol_GW n b) {fr : Nat} (hfr : fr < b.2.1 0 0) : ∀ k x, sp_wk (b.2.1 3) (b.2.1 2) fr k x → x < b.2.1 0 0
  | 0, x, h => by
    have : x = fr := h
    omega
  | k + 1, x, h => by
    obtain ⟨y, e, h1, h2, h3, h4⟩ := h
    have hy := sp_wk_lt hW hfr k y h1
    have := hW.fl (j := y + 1) (by omega)
    rw [← h4]
    exact hW.2.2.2.2.1 e (by omega)
/-! the queue -/
def ol_QO (N fr : Nat) (E fA : Nat → Nat) (f : Nat → Option Nat) (q : Nat → Nat) (r c : Nat) : Prop :=
  r ≤ c ∧ c = ol_cn f N ∧ f fr = some 0 ∧ (∀ i, i < c → q i < N ∧ f (q i) ≠ none) ∧ (∀ x k, f x = some k → sp_wk E fA fr k x ∧ ∃ i, i < c ∧ q i = x) ∧ (∀ i j ki kj, i ≤ j → j < c → f (q i) = some ki → f (q j) = some kj → ki ≤ kj) ∧ (∀ j i kj ki, j < c → r ≤ i → i < c → f (q j) = some kj → f (q i) = some ki → kj ≤ ki + 1) ∧ ∀ i, i < r → ∀ ki e, f (q i) = some ki → fA (q i) ≤ e → e < fA (q i + 1) → ∃ b, f (E e) = some b ∧ b ≤ ki + 1
def ol_QM (N fr : Nat) (E fA : Nat → Nat) (f : Nat → Option Nat) (q : Nat → Nat) (r c a : Nat) : Prop :=
  ol_QO N fr E fA f q r c ∧ r < c ∧ ∀ kr e, f (q r) = some kr → fA (q r) ≤ e → e < a → ∃ b, f (E e) = some b ∧ b ≤ kr + 1
theorem ol_QO_init {N fr : Nat} {E fA : Nat → Nat} {q : Nat → Nat} (hfr : fr < N) (hq : q 0 = fr) : ol_QO N fr E fA (va_up (fun _ => none) fr (some 0)) q 0 1 := by
  have hs : ∀ x k, va_up (fun _ => (none : Option Nat)) fr (some 0) x = some k → x = fr ∧ k = 0 := by
    intro x k h
    by_cases e : x = fr
    · subst e
      rw [va_up_self] at h
      exact ⟨rfl, (Option.some.inj h).symm⟩
    · rw [va_up_ne _ _ e] at h
      cases h
  refine ⟨by omega, ?_, va_up_self _ _ _, fun i hi => ?_, fun x k h => ?_, fun i j ki kj _ _ h1 h2 => ?_, fun j i kj ki _ _ _ h1 h2 => ?_, fun i hi => absurd hi (Nat.not_lt_zero i)⟩
  · rw [ol_cn_up rfl, ol_cn_none, if_pos hfr]
  · have : i = 0 := by omega
    subst this
    rw [hq, va_up_self]
    exact ⟨hfr, by simp⟩
  · obtain ⟨rfl, rfl⟩ := hs x k h
    exact ⟨rfl, 0, by omega, hq⟩
  · have := (hs _ _ h1).2
    omega
  · have := (hs _ _ h1).2
    omega
theorem ol_QO.begin {N fr : Nat} {E fA : Nat → Nat} {f : Nat → Option Nat} {q : Nat → Nat} {r c : Nat} (h : ol_QO N fr E fA f q r c) (hr : r < c) : ol_QM N fr E fA f q r c (fA (q r)) := ⟨h, hr, fun kr e _ h1 h2 => absurd h1 (by omega)⟩
theorem ol_QM.done {N fr : Nat} {E fA : Nat → Nat} {f : Nat → Option Nat} {q : Nat → Nat} {r c : Nat} (h : ol_QM N fr E fA f q r c (fA (q r + 1))) : ol_QO N fr E fA f q (r + 1) c := by
  obtain ⟨⟨h1, h2, h3, h4, h5, h6, h7, h8⟩, hr, hl⟩ := h
  refine ⟨by omega, h2, h3, h4, h5, h6, fun j i kj ki a1 a2 a3 => h7 j i kj ki a1 (by omega) a3, fun i hi ki e e1 e2 e3 => ?_⟩
  by_cases q : i = r
  · subst q
    exact hl ki e e1 e2 e3
  · exact h8 i (by omega) ki e e1 e2 e3
theorem ol_QM.old {N fr : Nat} {E fA : Nat → Nat} {f : Nat → Option Nat} {q : Nat → Nat} {r c a b : Nat} (h : ol_QM N fr E fA f q r c a) (hb : f (E a) = some b) : ol_QM N fr E fA f q r c (a + 1) := by
  refine ⟨h.1, h.2.1, fun kr e h1 h2 h3 => ?_⟩
  by_cases e1 : e = a
  · subst e1
    obtain ⟨-, i, hi, hq⟩ := h.1.2.2.2.2.1 (E e) b hb
    exact ⟨b, hb, h.1.2.2.2.2.2.2.1 i r b kr hi (Nat.le_refl _) h.2.1 (by rw [hq]; exact hb) h1⟩
  · exact h.2.2 kr e h1 h2 (by omega)
theorem ol_QM.new {N fr : Nat} {E fA : Nat → Nat} {f : Nat → Option Nat} {q : Nat → Nat} {r c a kr : Nat} (h : ol_QM N fr E fA f q r c a) (hb : f (E a) = none) (hN : E a < N) (hk : f (q r) = some kr) (h1 : fA (q r) ≤ a) (h2 : a < fA (q r + 1)) : c < N ∧ ol_QM N fr E fA (va_up f (E a) (some (kr + 1))) (va_up q c (E a)) r (c + 1) (a + 1) := by
  obtain ⟨⟨g1, g2, g3, g4, g5, g6, g7, g8⟩, hr, hl⟩ := h
  have hc : c < N := by
    rw [g2]
    exact ol_cn_lt hb N hN
  have fo : ∀ x k, f x = some k → va_up f (E a) (some (kr + 1)) x = some k := by
    intro x k hx
    rw [va_up_ne _ _ (fun e => by rw [e, hb] at hx; cases hx)]
    exact hx
  have qm : ∀ i, i < c → q i ≠ E a := fun i hi e => (g4 i hi).2 (by rw [e]; exact hb)
  have qo : ∀ i, i < c → va_up q c (E a) i = q i := fun i hi => va_up_ne _ _ (by omega)
  have fq : ∀ i, i < c → va_up f (E a) (some (kr + 1)) (va_up q c (E a) i) = f (q i) := fun i hi => by
    rw [qo i hi, va_up_ne _ _ (qm i hi)]
  have fc : va_up f (E a) (some (kr + 1)) (va_up q c (E a) c) = some (kr + 1) := by
    rw [va_up_self, va_up_self]
  refine ⟨hc, ⟨by omega, ?_, fo fr 0 g3, ?_, ?_, ?_, ?_, ?_⟩, by omega, ?_⟩
  · rw [ol_cn_up hb, if_pos hN, ← g2]
  · intro i hi
    by_cases e : i = c
    · subst e
      rw [fc, va_up_self]
      exact ⟨hN, by simp⟩
    · rw [fq i (by omega), qo i (by omega)]
      exact g4 i (by omega)
  · intro x k hx
    by_cases e : x = E a
    · subst e
      rw [va_up_self] at hx
      have ek : kr + 1 = k := Option.some.inj hx
      subst ek
      exact ⟨⟨q r, a, (g5 _ _ hk).1, h1, h2, rfl⟩, c, by omega, va_up_self _ _ _⟩
    · rw [va_up_ne _ _ e] at hx
      obtain ⟨w, i, hi, hq⟩ := g5 x k hx
      exact ⟨w, i, by omega, by rw [qo i hi]; exact hq⟩
  · intro i j ki kj hij hj ei ej
    by_cases e : j = c
    · subst e
      rw [fc] at ej
      have ek : kr + 1 = kj := Option.some.inj ej
      by_cases e2 : i = j
      · subst e2
        rw [fc] at ei
        have := Option.some.inj ei
        omega
      · rw [fq i (by omega)] at ei
        have := g7 i r ki kr (by omega) (Nat.le_refl _) hr ei hk
        omega
    · rw [fq j (by omega)] at ej
      rw [fq i (by omega)] at ei
      exact g6 i j ki kj hij (by omega) ei ej
  · intro j i kj ki hj hri hi ej ei
    by_cases e : j = c
    · subst e
      rw [fc] at ej
      have ek : kr + 1 = kj := Option.some.inj ej
      by_cases e2 : i = j
      · subst e2
        rw [fc] at ei
        have := Option.some.inj ei
        omega
      · rw [fq i (by omega)] at ei
        have := g6 r i kr ki hri (by omega) hk ei
        omega
    · rw [fq j (by omega)] at ej
      have b1 := g7 j r kj kr (by omega) (Nat.le_refl _) hr ej hk
      by_cases e2 : i = c
      · subst e2
        rw [fc] at ei
        have := Option.some.inj ei
        omega
      · rw [fq i (by omega)] at ei
        exact g7 j i kj ki (by omega) hri (by omega) ej ei
  · intro i hi ki e ei e1 e2
    rw [fq i (by omega)] at ei
    rw [qo i (by omega)] at e1 e2
    obtain ⟨b, hb2, hle⟩ := g8 i hi ki e ei e1 e2
    exact ⟨b, fo _ _ hb2, hle⟩
  · intro kr2 e ek e1 e2
    rw [fq r hr, hk] at ek
    have ek2 : kr = kr2 := Option.some.inj ek
    rw [qo r hr] at e1
    by_cases e3 : e = a
    · subst e3
      exact ⟨kr + 1, va_up_self _ _ _, by omega⟩
    · obtain ⟨b, hb2, hle⟩ := hl kr e hk e1 (by omega)
      exact ⟨b, fo _ _ hb2, by omega⟩
theorem ol_QO.fin {N fr : Nat} {E fA : Nat → Nat} {f : Nat → Option Nat} {q : Nat → Nat} {c : Nat} (h : ol_QO N fr E fA f q c c) : sp_DF E fA fr f := by
  refine ⟨fun x k hx => (h.2.2.2.2.1 x k hx).1, fun k => ?_⟩
  induction k with
  | zero =>
    intro x hx
    have hx2 : x = fr := hx
    subst hx2
    exact ⟨0, Nat.le_refl _, h.2.2.1⟩
  | succ k ih =>
    intro x hx
    obtain ⟨y, e, h1, h2, h3, h4⟩ := hx
    obtain ⟨b, hb, hy⟩ := ih y h1
    obtain ⟨-, i, hi, hq⟩ := h.2.2.2.2.1 y b hy
    subst hq
    obtain ⟨b2, hb2, hle⟩ := h.2.2.2.2.2.2.2 i hi b e hy h2 h3
    exact ⟨b2, by omega, by rw [← h4]; exact hb2⟩
/-! the levels -/
def ol_LV (fr : Nat) (E fA : Nat → Nat) (f : Nat → Option Nat) (d : Nat) : Prop := (∀ x k, f x = some k → sp_wk E fA fr k x ∧ k ≤ d) ∧ ∀ k x, k ≤ d → sp_wk E fA fr k x → ∃ b, b ≤ k ∧ f x = some b
def ol_LM (fr : Nat) (E fA : Nat → Nat) (f : Nat → Option Nat) (d n a : Nat) : Prop := (∀ x k, f x = some k → sp_wk E fA fr k x ∧ k ≤ d + 1) ∧ (∀ k x, k ≤ d → sp_wk E fA fr k x → ∃ b, b ≤ k ∧ f x = some b) ∧ ∀ y e, f y = some d → fA y ≤ e → e < fA (y + 1) → (y < n ∨ (y = n ∧ e < a)) → f (E e) ≠ none
theorem ol_LV_init (fr : Nat) (E fA : Nat → Nat) : ol_LV fr E fA (va_up (fun _ => none) fr (some 0)) 0 := by
  refine ⟨fun x k h => ?_, fun k x hk h => ?_⟩
  · by_cases e : x = fr
    · subst e
      rw [va_up_self] at h
      have := Option.some.inj h
      subst this
      exact ⟨rfl, Nat.le_refl _⟩
    · rw [va_up_ne _ _ e] at h
      cases h
  · have : k = 0 := by omega
    subst this
    have hx : x = fr := h
    subst hx
    exact ⟨0, Nat.le_refl _, va_up_self _ _ _⟩
theorem ol_LV.begin {fr : Nat} {E fA : Nat → Nat} {f : Nat → Option Nat} {d : Nat} (h : ol_LV fr E fA f d) : ol_LM fr E fA f d 0 (fA 0) :=
  ⟨fun x k hx => ⟨(h.1 x k hx).1, Nat.le_succ_of_le (h.1 x k hx).2⟩, h.2, fun y e _ h1 _ h3 => by rcases h3 with h3 | ⟨rfl, h3⟩ <;> omega⟩
theorem ol_LM.next {fr : Nat} {E fA : Nat → Nat} {f : Nat → Option Nat} {d n : Nat} (h : ol_LM fr E fA f d n (fA (n + 1))) : ol_LM fr E fA f d (n + 1) (fA (n + 1)) := by
  refine ⟨h.1, h.2.1, fun y e h1 h2 h3 h4 => ?_⟩
  rcases h4 with h4 | ⟨rfl, h4⟩
  · by_cases q : y = n
    · subst q
      exact h.2.2 y e h1 h2 h3 (Or.inr ⟨rfl, h3⟩)
    · exact h.2.2 y e h1 h2 h3 (Or.inl (by omega))
  · omega
theorem ol_LM.skip {fr : Nat} {E fA : Nat → Nat} {f : Nat → Option Nat} {d n a : Nat} (h : ol_LM fr E fA f d n a) (hn : ¬ f n = some d) : ol_LM fr E fA f d (n + 1) (fA (n + 1)) := by
  refine ⟨h.1, h.2.1, fun y e h1 h2 h3 h4 => ?_⟩
  rcases h4 with h4 | ⟨rfl, h4⟩
  · by_cases q : y = n
    · subst q
      exact absurd h1 hn
    · exact h.2.2 y e h1 h2 h3 (Or.inl (by omega))
  · omega
theorem ol_LM.old {fr : Nat} {E fA : Nat → Nat} {f : Nat → Option Nat} {d n a : Nat} (h : ol_LM fr E fA f d n a) (hb : ¬ f (E a) = none) : ol_LM fr E fA f d n (a + 1) := by
  refine ⟨h.1, h.2.1, fun y e h1 h2 h3 h4 => ?_⟩
  by_cases q : e = a
  · subst q
    exact hb
  · refine h.2.2 y e h1 h2 h3 ?_
    rcases h4 with h4 | ⟨h4, h5⟩
    · exact Or.inl h4
    · exact Or.inr ⟨h4, by omega⟩
theorem ol_LM.new {fr : Nat} {E fA : Nat → Nat} {f : Nat → Option Nat} {d n a : Nat} (h : ol_LM fr E fA f d n a) (hb : f (E a) = none) (hn : f n = some d) (h1 : fA n ≤ a) (h2 : a < fA (n + 1)) : ol_LM fr E fA (va_up f (E a) (some (d + 1))) d n (a + 1) := by
  have fo : ∀ x k, f x = some k → va_up f (E a) (some (d + 1)) x = some k := by
    intro x k hx
    rw [va_up_ne _ _ (fun e => by rw [e, hb] at hx; cases hx)]
    exact hx
  refine ⟨fun x k hx => ?_, fun k x hk hx => ?_, fun y e e1 e2 e3 e4 => ?_⟩
  · by_cases q : x = E a
    · subst q
      rw [va_up_self] at hx
      have := Option.some.inj hx
      subst this
      exact ⟨⟨n, a, (h.1 n d hn).1, h1, h2, rfl⟩, Nat.le_refl _⟩
    · rw [va_up_ne _ _ q] at hx
      exact h.1 x k hx
  · obtain ⟨b, hb2, hf⟩ := h.2.1 k x hk hx
    exact ⟨b, hb2, fo x b hf⟩
  · by_cases q : e = a
    · subst q
      rw [va_up_self]
      simp
    · by_cases qy : y = E a
      · subst qy
        rw [va_up_self] at e1
        have := Option.some.inj e1
        omega
      · rw [va_up_ne _ _ qy] at e1
        have hne := h.2.2 y e e1 e2 e3 (by
          rcases e4 with e4 | ⟨e4, e5⟩
          · exact Or.inl e4
          · exact Or.inr ⟨e4, by omega⟩)
        intro z
        by_cases qe : E e = E a
        · rw [qe, va_up_self] at z
          cases z
        · rw [va_up_ne _ _ qe] at z
          exact hne z
theorem ol_LM.fin {fr : Nat} {E fA : Nat → Nat} {f : Nat → Option Nat} {d N a : Nat} (h : ol_LM fr E fA f d N a) (hN : ∀ k x, sp_wk E fA fr k x → x < N) : ol_LV fr E fA f (d + 1) := by
  refine ⟨h.1, fun k x hk hx => ?_⟩
  by_cases e : k = d + 1
  · subst e
    obtain ⟨y, e, h1, h2, h3, h4⟩ := hx
    obtain ⟨b, hb, hy⟩ := h.2.1 d y (Nat.le_refl _) h1
    by_cases q : b = d
    · subst q
      have hne := h.2.2 y e hy h2 h3 (Or.inl (hN b y h1))
      rw [h4] at hne
      cases hf : f x with
      | none => exact absurd hf hne
      | some z => exact ⟨z, (h.1 x z hf).2, rfl⟩
    · obtain ⟨b2, hb2, hf⟩ := h.2.1 (b + 1) x (by omega) ⟨y, e, (h.1 y b hy).1, h2, h3, h4⟩
      exact ⟨b2, by omega, hf⟩
  · exact h.2.1 k x (by omega) hx
/-- how many have the number j or less: at least j + 1 where one has j -/
theorem ol_cn_mono {O O' : Nat → Option Nat} (h : ∀ y, O y ≠ none → O' y ≠ none) : ∀ n, ol_cn O n ≤ ol_cn O' n
  | 0 => Nat.le_refl _
  | n + 1 => by
    have := ol_cn_mono h n
    unfold ol_cn
    cases ho : O n with
    | none => simp; omega
    | some z =>
      have h2 := h n (by rw [ho]; simp)
      cases ho2 : O' n with
      | none => exact absurd ho2 h2
      | some z2 => simp; omega
theorem ol_cn_str {O O' : Nat → Option Nat} (h : ∀ y, O y ≠ none → O' y ≠ none) {u : Nat} (hu : O u = none) (hu2 : O' u ≠ none) : ∀ n, u < n → ol_cn O n + 1 ≤ ol_cn O' n
  | 0, hn => absurd hn (by omega)
  | n + 1, hn => by
    unfold ol_cn
    by_cases e : u = n
    · subst e
      have := ol_cn_mono h u
      rw [hu]
      cases ho2 : O' u with
      | none => exact absurd ho2 hu2
      | some z2 => simp; omega
    · have := ol_cn_str h hu hu2 n (by omega)
      cases ho : O n with
      | none => simp; omega
      | some z =>
        have h2 := h n (by rw [ho]; simp)
        cases ho2 : O' n with
        | none => exact absurd ho2 h2
        | some z2 => simp; omega
def ol_cut (f : Nat → Option Nat) (j : Nat) : Nat → Option Nat := fun x => match f x with
  | none => none
  | some k => if k ≤ j then some k else none
theorem ol_cut_ne {f : Nat → Option Nat} {j x : Nat} : ol_cut f j x ≠ none ↔ ∃ k, f x = some k ∧ k ≤ j := by
  unfold ol_cut
  cases f x with
  | none => simp
  | some k =>
    by_cases h : k ≤ j
    · simp [h]
    · simp [h]
theorem ol_LV.cnt {fr : Nat} {E fA : Nat → Nat} {f : Nat → Option Nat} {d N : Nat} (h : ol_LV fr E fA f d) (hN : ∀ k x, sp_wk E fA fr k x → x < N) : ∀ j x, f x = some j → j + 1 ≤ ol_cn (ol_cut f j) N := by
  intro j
  induction j with
  | zero =>
    intro x hx
    have := ol_cn_str (O := fun _ => none) (O' := ol_cut f 0) (fun y hy => absurd rfl hy) (u := x) rfl (ol_cut_ne.mpr ⟨0, hx, Nat.le_refl _⟩) N (hN 0 x (h.1 x 0 hx).1)
    omega
  | succ j ih =>
    intro x hx
    obtain ⟨w, hd⟩ := h.1 x (j + 1) hx
    obtain ⟨y, e, h1, h2, h3, h4⟩ := id w
    obtain ⟨b, hb, hy⟩ := h.2 j y (by omega) h1
    have hbj : b = j := Classical.byContradiction (fun q => by
      obtain ⟨b2, hb2, hf⟩ := h.2 (b + 1) x (by omega) ⟨y, e, (h.1 y b hy).1, h2, h3, h4⟩
      rw [hx] at hf
      have := Option.some.inj hf
      omega)
    subst hbj
    have h5 := ih y hy
    have h6 := ol_cn_str (O := ol_cut f b) (O' := ol_cut f (b + 1)) (fun z hz => by
      obtain ⟨k, q1, q2⟩ := ol_cut_ne.mp hz
      exact ol_cut_ne.mpr ⟨k, q1, by omega⟩) (u := x) (Classical.byContradiction (fun q => by
        obtain ⟨k, q1, q2⟩ := ol_cut_ne.mp q
        rw [hx] at q1
        have := Option.some.inj q1
        omega)) (ol_cut_ne.mpr ⟨b + 1, hx, Nat.le_refl _⟩) N (hN _ x w)
    omega
theorem ol_LV.fin {fr : Nat} {E fA : Nat → Nat} {f : Nat → Option Nat} {N : Nat} (h : ol_LV fr E fA f N) (hN : ∀ k x, sp_wk E fA fr k x → x < N) : sp_DF E fA fr f := by
  have hlt : ∀ x k, f x = some k → k < N := fun x k hx => by
    have h1 := h.cnt hN k x hx
    have h2 := ol_cn_le (ol_cut f k) N
    omega
  refine ⟨fun x k hx => (h.1 x k hx).1, fun k => ?_⟩
  induction k with
  | zero => exact fun x hx => h.2 0 x (Nat.zero_le _) hx
  | succ k ih =>
    intro x hx
    obtain ⟨y, e, h1, h2, h3, h4⟩ := hx
    obtain ⟨b, hb, hy⟩ := ih y h1
    have hbN := hlt y b hy
    obtain ⟨b2, hb2, hf⟩ := h.2 (b + 1) x (by omega) ⟨y, e, (h.1 y b hy).1, h2, h3, h4⟩
    exact ⟨b2, by omega, hf⟩
