/-- what a growing graph keeps -/
def ol_kp (b b' : ol_B) : Prop := b.2.1 0 0 ≤ b'.2.1 0 0 ∧ (∀ m, m < b.2.1 0 0 → b'.2.1 1 m = b.2.1 1 m) ∧ b'.2.1 2 = b.2.1 2 ∧ b'.2.2.1 0 = b.2.2.1 0
theorem ol_kp_rf (b : ol_B) : ol_kp b b := ⟨Nat.le_refl _, fun _ _ => rfl, rfl, rfl⟩
theorem ol_kp.trans {a b c : ol_B} (h : ol_kp a b) (h2 : ol_kp b c) : ol_kp a c := ⟨Nat.le_trans h.1 h2.1, fun m hm => (h2.2.1 m (Nat.lt_of_lt_of_le hm h.1)).trans (h.2.1 m hm), h2.2.2.1.trans h.2.2.1, h2.2.2.2.trans h.2.2.2⟩
theorem ol_kp_ask (b : ol_B) (u : Nat) : ol_kp b (sp_ask b u) := ol_kp_rf b
theorem ol_kp_hole (b : ol_B) : ol_kp b (sp_hole b) := by
  unfold ol_kp
  rw [sp_hole_N, ol_u2_k _ _ (by decide), ol_u2_a _ _ (by decide), ol_u2_a _ _ (by decide)]
  exact ⟨Nat.le_refl _, fun _ _ => rfl, rfl, rfl⟩
theorem ol_kp_find (b : ol_B) (u : Nat) : ol_kp b (sp_find b u) := by
  unfold sp_find
  cases b.2.2.2 u with
  | some k => exact ol_kp_rf b
  | none =>
    unfold ol_kp
    dsimp only
    rw [ol_u2_s, ol_u2_a _ _ (show 1 ≠ 0 by decide), ol_u2_a _ _ (show 2 ≠ 0 by decide), ol_u2_a _ _ (show 2 ≠ 1 by decide)]
    exact ⟨by omega, fun m hm => ol_u2_k _ _ (by omega), rfl, rfl⟩
theorem ol_kp_arc (b : ol_B) (u : Nat) (w br : Int32) : ol_kp b (sp_arc b u w br) := by
  refine (ol_kp_find b u).trans ?_
  unfold ol_kp
  rw [sp_arc_N, ol_u2_k _ _ (show 0 ≠ 1 by decide), ol_u2_a _ _ (show 0 ≠ 3 by decide), ol_u2_a _ _ (show 1 ≠ 0 by decide), ol_u2_a _ _ (show 1 ≠ 3 by decide), ol_u2_a _ _ (show 2 ≠ 0 by decide), ol_u2_a _ _ (show 2 ≠ 3 by decide)]
  refine ⟨Nat.le_refl _, fun _ _ => rfl, rfl, ?_⟩
  show ol_u2 (ol_u2 b.2.2.1 1 (b.2.1 0 1) w) 2 (b.2.1 0 1) br 0 = _
  rw [ol_u2_a _ _ (by decide), ol_u2_a _ _ (by decide), (sp_find_1 b u).2.1]
section OLSQ
variable {n : Nat} {So : Nat → Nat} {T : Nat → Nat → Int32} {P : Nat → Nat → Option Nat}
theorem sp_ls_keep (hV : ol_V n So T P) {t : Nat} (ht : t < n) (hc : sp_lc So T P t = 0) : ∀ (d i M : Nat) (b : ol_B), i + d = sp_ln So P t → ol_BW n So b (M + i) → ol_kp b (sp_ls So T P t d i b).1 ∧ ol_BW n So (sp_ls So T P t d i b).1 (M + sp_ln So P t) := by
  intro d
  induction d with
  | zero =>
    intro i M b hi hB
    exact ⟨ol_kp_rf b, hB.mono (by omega)⟩
  | succ d ih =>
    intro i M b hi hB
    have hi6 : i < sp_ln So P t := by omega
    cases hq : sp_lk So T P t i with
    | none =>
      rw [sp_ls_none hq]
      obtain ⟨h1, h2⟩ := ih (i + 1) M (sp_hole b) (by omega) (hB.hole.mono (by omega))
      exact ⟨(ol_kp_hole b).trans h1, h2⟩
    | some u =>
      have hun := sp_lk_lt hV ht hc hi6 hq
      by_cases hs : So u = 2
      · cases he : sp_en P u t with
        | none =>
          rw [sp_ls_b1 hq hs he]
          exact ⟨ol_kp_ask b u, (hB.ask u).mono (by omega)⟩
        | some e =>
          by_cases hse : So e = 2
          · rw [sp_ls_b3 hq hs he hse]
            exact ⟨ol_kp_ask b u, (hB.ask u).mono (by omega)⟩
          · rw [sp_ls_ok hq hs he hse]
            obtain ⟨h1, h2⟩ := ih (i + 1) M (sp_arc (sp_ask (sp_ask b u) u) e (T 2 u) 1) (by omega) ((((hB.ask u).ask u).arc (T 2 u) 1 (sp_en_lt hV hun he) hse).mono (by omega))
            exact ⟨(ol_kp_arc (sp_ask (sp_ask b u) u) e (T 2 u) 1).trans h1, h2⟩
      · rw [sp_ls_node hq hs]
        obtain ⟨h1, h2⟩ := ih (i + 1) M (sp_arc b u 1 0) (by omega) ((hB.arc 1 0 hun hs).mono (by omega))
        exact ⟨(ol_kp_arc b u 1 0).trans h1, h2⟩
end OLSQ
/-- the first of the nodes m, m + 1 .. (d of them) whose key is that of t -/
noncomputable def sp_dk (T : Nat → Nat → Int32) (N1 : Nat → Nat) (t : Nat) : Nat → Nat → Option Nat
  | 0, _ => none
  | d + 1, m => ol_if (T 1 (N1 m) = T 1 t) (some m) (sp_dk T N1 t d (m + 1))
theorem sp_dk_lt {T : Nat → Nat → Int32} {N1 : Nat → Nat} {t : Nat} : ∀ (d m j : Nat), sp_dk T N1 t d m = some j → m ≤ j ∧ j < m + d
  | 0, m, j, h => by cases h
  | d + 1, m, j, h => by
    unfold sp_dk at h
    by_cases e : T 1 (N1 m) = T 1 t
    · rw [ol_if_t e] at h
      have := Option.some.inj h
      omega
    · rw [ol_if_f e] at h
      have := sp_dk_lt d (m + 1) j h
      omega
abbrev ol_Fl : Type := Option (Nat × Option Nat × Int32)
/-- a node is asked: its key (where asked by keys), its value, its links -/
noncomputable def sp_n3 (So : Nat → Nat) (T : Nat → Nat → Int32) (P : Nat → Nat → Option Nat) (k t : Nat) (b : ol_B) : ol_B × ol_Fl :=
  ol_if (sp_lc So T P t = 0) (match sp_ls So T P t (sp_ln So P t) 0 (sp_ask b t) with
    | (b4, none) => ((b4.1, ol_u2 b4.2.1 2 (k + 1) (b4.2.1 0 1), b4.2.2), none)
    | (b4, some q) => (b4, some (q.1, none, q.2))) (sp_ask b t, some (t, none, sp_lc So T P t))
noncomputable def sp_n2 (So : Nat → Nat) (T : Nat → Nat → Int32) (P : Nat → Nat → Option Nat) (k t : Nat) (b : ol_B) : ol_B × ol_Fl :=
  ol_if (sp_vc So T t = 0) (sp_n3 So T P k t (va_up b.1 t (b.1 t + 1), b.2.1, ol_u2 b.2.2.1 0 k (sp_vv So T t), b.2.2.2)) (sp_ask b t, some (t, none, sp_vc So T t))
noncomputable def sp_nd (So : Nat → Nat) (T : Nat → Nat → Int32) (P : Nat → Nat → Option Nat) (byK : Prop) (k : Nat) (b : ol_B) : ol_B × ol_Fl :=
  ol_if byK (ol_if (sp_kc So T (b.2.1 1 k) = 0) (match sp_dk T (b.2.1 1) (b.2.1 1 k) k 0 with
    | some m => (sp_ask b (b.2.1 1 k), some (b.2.1 1 k, some (b.2.1 1 m), 6))
    | none => sp_n2 So T P k (b.2.1 1 k) (sp_ask b (b.2.1 1 k))) (sp_ask b (b.2.1 1 k), some (b.2.1 1 k, none, sp_kc So T (b.2.1 1 k)))) (sp_n2 So T P k (b.2.1 1 k) b)
noncomputable def sp_ld (So : Nat → Nat) (T : Nat → Nat → Int32) (P : Nat → Nat → Option Nat) (byK : Prop) : Nat → Nat → ol_B → ol_B × ol_Fl
  | 0, _, b => (b, none)
  | d + 1, k, b => ol_if (k < b.2.1 0 0) (match sp_nd So T P byK k b with
    | (b', none) => sp_ld So T P byK d (k + 1) b'
    | (b', some q) => (b', some q)) (b, none)
/-- what asking node k keeps of b; R is what came out -/
def ol_K2 (n : Nat) (So : Nat → Nat) (M k : Nat) (b : ol_B) (R : ol_B × ol_Fl) : Prop := b.2.1 0 0 ≤ R.1.2.1 0 0 ∧ (∀ m, m < b.2.1 0 0 → R.1.2.1 1 m = b.2.1 1 m) ∧ ol_BW n So R.1 (M + 6) ∧ (∀ j, j ≠ k + 1 → R.1.2.1 2 j = b.2.1 2 j) ∧ (∀ j, j ≠ k → R.1.2.2.1 0 j = b.2.2.1 0 j) ∧ (R.2 = none → R.1.2.1 2 (k + 1) = R.1.2.1 0 1)
theorem ol_K2.ask {n : Nat} {So : Nat → Nat} {M k t : Nat} {b : ol_B} {R : ol_B × ol_Fl} (h : ol_K2 n So M k (sp_ask b t) R) : ol_K2 n So M k b R := h
theorem ol_K2.col {n : Nat} {So : Nat → Nat} {M k : Nat} {b : ol_B} {R : ol_B × ol_Fl} {A : Nat → Int32} {x : Int32} (h : ol_K2 n So M k (A, b.2.1, ol_u2 b.2.2.1 0 k x, b.2.2.2) R) : ol_K2 n So M k b R :=
  ⟨h.1, h.2.1, h.2.2.1, h.2.2.2.1, fun j hj => (h.2.2.2.2.1 j hj).trans (ol_u2_k (a := 0) (k := k) (j := j) b.2.2.1 x hj), h.2.2.2.2.2⟩
theorem ol_K2_f {n : Nat} {So : Nat → Nat} {M k t : Nat} {b : ol_B} (hB : ol_BW n So b M) (q : Nat × Option Nat × Int32) : ol_K2 n So M k b (sp_ask b t, some q) := ⟨Nat.le_refl _, fun _ _ => rfl, (hB.ask t).mono (by omega), fun _ _ => rfl, fun _ _ => rfl, fun z => by cases z⟩
theorem sp_n3_keep {n : Nat} {So : Nat → Nat} {T : Nat → Nat → Int32} {P : Nat → Nat → Option Nat} (hV : ol_V n So T P) {k t M : Nat} (ht : t < n) {b : ol_B} (hB : ol_BW n So b M) : ol_K2 n So M k b (sp_n3 So T P k t b) := by
  unfold sp_n3
  by_cases hc : sp_lc So T P t = 0
  · rw [ol_if_t hc]
    have l6 := sp_ln_le So P t
    obtain ⟨h1, h2⟩ := sp_ls_keep hV ht hc (sp_ln So P t) 0 M (sp_ask b t) (by omega) ((hB.ask t).mono (by omega))
    cases hr : sp_ls So T P t (sp_ln So P t) 0 (sp_ask b t) with
    | mk b4 f =>
      rw [hr] at h1 h2
      cases f with
      | none =>
        dsimp only at h1 h2 ⊢
        refine ol_K2.ask (t := t) ?_
        unfold ol_K2
        dsimp only
        rw [ol_u2_a _ _ (show 0 ≠ 2 by decide), ol_u2_a _ _ (show 1 ≠ 2 by decide)]
        refine ⟨h1.1, h1.2.1, ?_, fun j hj => by rw [ol_u2_k _ _ hj, h1.2.2.1], fun j _ => congrFun h1.2.2.2 j, fun _ => ol_u2_s _ _ _ _⟩
        have h3 := h2.mono (show M + sp_ln So P t ≤ M + 6 by omega)
        unfold ol_BW at h3 ⊢
        dsimp only
        rw [ol_u2_a _ _ (show 0 ≠ 2 by decide), ol_u2_a _ _ (show 1 ≠ 2 by decide), ol_u2_a _ _ (show 3 ≠ 2 by decide)]
        exact h3
      | some q => exact ⟨h1.1, h1.2.1, h2.mono (by omega), fun j _ => congrFun h1.2.2.1 j, fun j _ => congrFun h1.2.2.2 j, fun z => by cases z⟩
  · rw [ol_if_f hc]
    exact ol_K2_f hB _
theorem sp_n2_keep {n : Nat} {So : Nat → Nat} {T : Nat → Nat → Int32} {P : Nat → Nat → Option Nat} (hV : ol_V n So T P) {k t M : Nat} (ht : t < n) {b : ol_B} (hB : ol_BW n So b M) : ol_K2 n So M k b (sp_n2 So T P k t b) := by
  unfold sp_n2
  by_cases hc : sp_vc So T t = 0
  · rw [ol_if_t hc]
    exact ol_K2.col (sp_n3_keep hV ht hB)
  · rw [ol_if_f hc]
    exact ol_K2_f hB _
theorem sp_nd_keep {n : Nat} {So : Nat → Nat} {T : Nat → Nat → Int32} {P : Nat → Nat → Option Nat} (hV : ol_V n So T P) {byK : Prop} {k M : Nat} {b : ol_B} (hk : k < b.2.1 0 0) (hB : ol_BW n So b M) : ol_K2 n So M k b (sp_nd So T P byK k b) := by
  have ht := (hB.2.1 k hk).1
  unfold sp_nd
  by_cases hb : byK
  · rw [ol_if_t hb]
    by_cases hc : sp_kc So T (b.2.1 1 k) = 0
    · rw [ol_if_t hc]
      cases sp_dk T (b.2.1 1) (b.2.1 1 k) k 0 with
      | some m => exact ol_K2_f hB _
      | none =>
        have h := sp_n2_keep hV (k := k) (t := b.2.1 1 k) (M := M) ht (b := sp_ask b (b.2.1 1 k)) (hB.ask _)
        exact h.ask
    · rw [ol_if_f hc]
      exact ol_K2_f hB _
  · rw [ol_if_f hb]
    exact sp_n2_keep hV ht hB
