/-! what loading gives is a graph -/
section OLGW
variable {n : Nat} {So : Nat → Nat} {T : Nat → Nat → Int32} {P : Nat → Nat → Option Nat}
theorem sp_arc_01 (b : ol_B) (u : Nat) (w br : Int32) : (sp_arc b u w br).2.1 0 1 = b.2.1 0 1 + 1 := by rw [sp_arc_N, ol_u2_s]
theorem sp_hole_01 (b : ol_B) : (sp_hole b).2.1 0 1 = b.2.1 0 1 := by rw [sp_hole_N, ol_u2_k _ _ (by decide)]
theorem sp_fo_01 (t : Nat) (q : Option Nat) (b : ol_B) : b.2.1 0 1 ≤ (sp_fo So T P t q b).1.2.1 0 1 := by
  cases q with
  | none => exact Nat.le_of_eq (sp_hole_01 b).symm
  | some u =>
    by_cases hs : So u = 2
    · cases he : sp_en P u t with
      | none =>
        rw [sp_fo_1 hs he]
        exact Nat.le_refl _
      | some e =>
        by_cases hse : So e = 2
        · rw [sp_fo_3 hs he hse]
          exact Nat.le_refl _
        · rw [sp_fo_b hs he hse]
          show _ ≤ (sp_arc (sp_ask (sp_ask b u) u) e (T 2 u) 1).2.1 0 1
          rw [sp_arc_01]
          exact Nat.le_succ _
    · rw [sp_fo_n hs]
      show _ ≤ (sp_arc b u 1 0).2.1 0 1
      rw [sp_arc_01]
      exact Nat.le_succ _
theorem sp_ls_01 (t : Nat) : ∀ (d i : Nat) (b : ol_B), b.2.1 0 1 ≤ (sp_ls So T P t d i b).1.2.1 0 1
  | 0, i, b => Nat.le_refl _
  | d + 1, i, b => by
    have h := sp_fo_01 (So := So) (T := T) (P := P) t (sp_lk So T P t i) b
    cases hf : (sp_fo So T P t (sp_lk So T P t i) b).2 with
    | none =>
      rw [sp_ls_s hf]
      exact Nat.le_trans h (sp_ls_01 t d (i + 1) _)
    | some f =>
      rw [sp_ls_f hf]
      exact h
theorem sp_n3_01 (k t : Nat) (b : ol_B) : b.2.1 0 1 ≤ (sp_n3 So T P k t b).1.2.1 0 1 := by
  by_cases hc : sp_lc So T P t = 0
  · have h := sp_ls_01 (So := So) (T := T) (P := P) t (sp_ln So P t) 0 (sp_ask b t)
    cases hr : sp_ls So T P t (sp_ln So P t) 0 (sp_ask b t) with
    | mk b4 f =>
      rw [hr] at h
      cases f with
      | none =>
        rw [sp_n3_none hc hr]
        show _ ≤ ol_u2 b4.2.1 2 (k + 1) (b4.2.1 0 1) 0 1
        rw [ol_u2_a _ _ (by decide)]
        exact h
      | some q =>
        rw [sp_n3_some hc hr]
        exact h
  · rw [sp_n3_f hc]
    exact Nat.le_refl _
theorem sp_n2_01 (k t : Nat) (b : ol_B) : b.2.1 0 1 ≤ (sp_n2 So T P k t b).1.2.1 0 1 := by
  unfold sp_n2
  by_cases hc : sp_vc So T t = 0
  · rw [ol_if_t hc]
    exact sp_n3_01 (So := So) (T := T) (P := P) k t (va_up b.1 t (b.1 t + 1), b.2.1, ol_u2 b.2.2.1 0 k (sp_vv So T t), b.2.2.2)
  · rw [ol_if_f hc]
    exact Nat.le_refl _
theorem sp_nd_01 (byK : Prop) (k : Nat) (b : ol_B) : b.2.1 0 1 ≤ (sp_nd So T P byK k b).1.2.1 0 1 := by
  unfold sp_nd
  by_cases hb : byK
  · rw [ol_if_t hb]
    by_cases hc : sp_kc So T (b.2.1 1 k) = 0
    · rw [ol_if_t hc]
      cases sp_dk T (b.2.1 1) (b.2.1 1 k) k 0 with
      | some m => exact Nat.le_refl _
      | none => exact sp_n2_01 k _ (sp_ask b (b.2.1 1 k))
    · rw [ol_if_f hc]
      exact Nat.le_refl _
  · rw [ol_if_f hb]
    exact sp_n2_01 k _ b
theorem sp_ld_GW (hV : ol_V n So T P) {byK : Prop} : ∀ (d k : Nat) (b : ol_B), k + d = 41 → ol_BW n So b (6 * k) → k ≤ b.2.1 0 0 → 0 < b.2.1 0 0 → b.2.1 2 0 = 0 → (∀ j, j < k → b.2.1 2 j ≤ b.2.1 2 (j + 1)) → b.2.1 2 k = b.2.1 0 1 → (sp_ld So T P byK d k b).2 = none → ol_GW n (sp_ld So T P byK d k b).1
  | 0, k, b, hk, hB, hle, _, _, _, _, _ => by
    have := hB.le
    have := hV.1
    omega
  | d + 1, k, b, hk, hB, hle, h0, h20, hmo, hkk, hR => by
    have h40 := hV.1
    have hBl := hB.le
    by_cases hlt : k < b.2.1 0 0
    · cases hn : (sp_nd So T P byK k b).2 with
      | some q =>
        rw [sp_ld_f hlt hn] at hR
        cases hR
      | none =>
        rw [sp_ld_s hlt hn] at hR ⊢
        obtain ⟨m1, m2, m3, m4, m5, m6⟩ := sp_nd_keep hV (byK := byK) (M := 6 * k) hlt hB
        have m7 := sp_nd_01 (So := So) (T := T) (P := P) byK k b
        have m6' := m6 hn
        refine sp_ld_GW hV d (k + 1) _ (by omega) (m3.mono (by omega)) (by omega) (by omega) (by rw [m4 0 (by omega)]; exact h20) (fun j hj => ?_) m6' hR
        by_cases e : j = k
        · subst e
          rw [m4 j (by omega), m6', hkk]
          exact m7
        · rw [m4 j (by omega), m4 (j + 1) (by omega)]
          exact hmo j (by omega)
    · rw [sp_ld_e hlt]
      have hkn : k = b.2.1 0 0 := by omega
      refine ⟨by show b.2.1 0 0 ≤ 40; omega, fun j hj => (hB.2.1 j hj).1, fun t j hj => (hB.2.2.1 t j hj).2.1, ?_, hB.2.2.2.2, h20, fun j hj => hmo j (by rw [hkn]; exact hj), ?_, fun q => ?_⟩
      · have := hB.2.2.2.1
        show b.2.1 0 1 ≤ 240
        omega
      · show b.2.1 2 (b.2.1 0 0) = b.2.1 0 1
        rw [← hkn]
        exact hkk
      · have q2 : b.2.1 0 0 = 0 := q
        omega
theorem sp_R_GW (hV : ol_V n So T P) {byK : Prop} {j : Nat} (hj : j < n) (hs : ¬ So j = 2) (h : (sp_R So T P byK j).2 = none) : ol_GW n (sp_R So T P byK j).1 := by
  obtain ⟨h1, h2, h3, h4, h5⟩ := (sp_b0_BW n So T).find hj hs
  exact sp_ld_GW hV 41 0 _ rfl h1 (Nat.zero_le _) (by omega) rfl (fun z hz => absurd hz (Nat.not_lt_zero z)) rfl h
theorem sp_b0_GW (n : Nat) (T : Nat → Nat → Int32) : ol_GW n (sp_b0 T) :=
  ⟨Nat.zero_le _, fun k hk => absurd hk (Nat.not_lt_zero k), fun t k h => (by cases h), Nat.zero_le _, fun a ha => absurd ha (Nat.not_lt_zero a), rfl, fun j hj => absurd hj (Nat.not_lt_zero j), rfl, fun _ => rfl⟩
end OLGW
section OLRL
variable {ro : Nat → Nat} {I I' I2 : Nat → Nat → Int32} {F F' F2 : Nat → Nat → Option Nat} {ad ta pa : Nat → Nat} {n : Nat} {So : Nat → Nat} {T : Nat → Nat → Int32} {P P' : Nat → Nat → Option Nat} {g h w : Nat} {b b' : ol_B} {ra rb rc fl : Int32}
/-! the class after a load -/
theorem ol_xr_o {a b2 d : Int32} (c : Nat) (hc : c ≠ ad 1) : ol_xr I ad a b2 d c = I c := by
  unfold ol_xr
  rw [ol_u2_a _ _ hc, ol_u2_a _ _ hc, ol_u2_a _ _ hc]
theorem ol_xr_k {a b2 d : Int32} {k : Nat} (h4 : k ≠ 4) (h5 : k ≠ 5) (h6 : k ≠ 6) : ol_xr I ad a b2 d (ad 1) k = I (ad 1) k := by
  unfold ol_xr
  rw [ol_u2_k _ _ h6, ol_u2_k _ _ h5, ol_u2_k _ _ h4]
theorem ol_xr_4 {a b2 d : Int32} : ol_xr I ad a b2 d (ad 1) 4 = a ∧ ol_xr I ad a b2 d (ad 1) 5 = b2 ∧ ol_xr I ad a b2 d (ad 1) 6 = d := by
  unfold ol_xr
  refine ⟨?_, ?_, ?_⟩
  · rw [ol_u2_k _ _ (by decide), ol_u2_k _ _ (by decide), ol_u2_s]
  · rw [ol_u2_k _ _ (by decide), ol_u2_s]
  · rw [ol_u2_s]
/-- what a load of the graph h leaves of the rest -/
theorem ol_XR.xf (hX : ol_XR ro I F ad ta pa n So T P g h b ra rb rc fl) (hL : ol_L ro F ad) (hV : ol_V n So T P) {I0 : Nat → Nat → Int32} (hf : ol_xf ad ta h n I0 F I2 F2) : (∀ r ∈ ol_uq, (∀ j, j ≤ 9 → r ≠ h + j) → I2 (ad r) = I0 (ad r)) ∧ ∀ r ∈ ol_uq, r ≠ h + 1 → F2 (ad r) = F (ad r) := by
  refine ⟨fun r hr hn => funext fun k => hf.1 _ k (fun j hj => hL.ne hr (ol_gu hX.hh hj) (hn j hj)) (fun q => ?_), fun r hr hn => hf.2 _ (hL.ne hr (ol_gu hX.hh (by decide)) hn)⟩
  obtain ⟨-, u, hu, e⟩ := q
  exact hX.xt.nta hL hV hu hr e.symm
theorem ol_XR.loaded (hX : ol_XR ro I F ad ta pa n So T P g h b ra rb rc fl) (hL : ol_L ro F ad) (hV : ol_V n So T P) (hI : ol_XI ro ad ta pa h n So T P (ol_xr I ad (-1000009) (-1000009) 0) F I2 F2 b' (b'.2.1 0 0) (b'.2.1 0 0 + 1)) : ol_XR ro I2 (ol_u2 (ol_u2 F2 (ad 1) 2 (some (ad h))) (ad 1) 3 (some (ad g))) ad ta pa n So (va_up T 4 b'.1) P h g b' (-1000009) (-1000009) 0 fl ∧ ol_L ro (ol_u2 (ol_u2 F2 (ad 1) 2 (some (ad h))) (ad 1) 3 (some (ad g))) ad ∧ ol_mk ad I I2 := by
  obtain ⟨hL2, hb2, hT2, hG2, h02, hf⟩ := hI
  obtain ⟨eI, eF⟩ := hX.xf hL hV hf
  have hne : ∀ r ∈ ol_uq, r ≠ 1 → ol_u2 (ol_u2 F2 (ad 1) 2 (some (ad h))) (ad 1) 3 (some (ad g)) (ad r) = F2 (ad r) := fun r hr h1 => by
    rw [ol_u2_a _ _ (hL.ne hr (by decide) h1), ol_u2_a _ _ (hL.ne hr (by decide) h1)]
  have h1n : ∀ j, j ≤ 9 → 1 ≠ h + j := fun j hj => by rcases ol_5060 hX.hh with rfl | rfl <;> omega
  have h11 : (11 : Nat) ≠ 1 := by decide
  have hT3 : ol_XT ro I2 (ol_u2 (ol_u2 F2 (ad 1) 2 (some (ad h))) (ad 1) 3 (some (ad g))) ad ta pa n So (va_up T 4 b'.1) P := by
    refine hT2.cg rfl (fun _ _ => rfl) (hne 11 (by decide) (by decide)) (fun t ht => ?_)
    have e1 := hT2.nta hL2 (hV.up4 b'.1) ht (r := 1) (by decide)
    have e2 := hT2.npa hL2 ht (r := 1) (by decide)
    rw [ol_u2_a _ _ e1, ol_u2_a _ _ e1, ol_u2_a _ _ e2, ol_u2_a _ _ e2]
    exact ⟨rfl, rfl⟩
  have mk0 : ∀ r ∈ ol_uM, (∀ j, j ≤ 9 → r ≠ h + j) ∧ r ≠ 1 := fun r hr => by
    have h3 : r < 50 ∧ r ≠ 1 := by
      revert r
      decide
    refine ⟨fun j hj => ?_, h3.2⟩
    rcases ol_5060 hX.hh with rfl | rfl <;> omega
  have i4 : g + 4 ∈ ol_uq := ol_gu hX.hg (by decide)
  have eg4 : I2 (ad (g + 4)) = I (ad (g + 4)) := by
    rw [eI _ i4 (fun j hj => hX.gh (by decide) hj), ol_xr_o _ (hL.ne i4 (by decide) (by rcases ol_5060 hX.hg with rfl | rfl <;> decide))]
  have hgh : (h = 50 ∧ g = 60) ∨ (h = 60 ∧ g = 50) := by
    rcases hX.1 with ⟨rfl, rfl⟩ | ⟨rfl, rfl⟩
    · exact Or.inr ⟨rfl, rfl⟩
    · exact Or.inl ⟨rfl, rfl⟩
  refine ⟨⟨hgh, hT3, by rw [ol_u2_k _ _ (by decide), ol_u2_s], ol_u2_s _ _ _ _, ?_, h02, by rw [eg4]; exact hX.2.2.2.2.2.1, ?_, ?_, ?_, ?_⟩, ?_, fun r hr => ?_⟩
  · rw [hne _ (ol_gu hX.hh (by decide)) (Ne.symm (h1n 1 (by decide)))]
    exact hG2
  · rw [eI 1 (by decide) h1n]
    exact ol_xr_4.1
  · rw [eI 1 (by decide) h1n]
    exact ol_xr_4.2.1
  · rw [eI 1 (by decide) h1n]
    exact ol_xr_4.2.2
  · rw [eI 1 (by decide) h1n, ol_xr_k (by decide) (by decide) (by decide)]
    exact hX.2.2.2.2.2.2.2.2.2.2
  · refine ⟨hL2.1, ?_, fun c hc j hj => ?_, fun q hq => by rw [hne 10 (by decide) (by decide)]; exact hL2.2.2.2 q hq⟩
    · rw [ol_u2_k _ _ (by decide), ol_u2_k _ _ (by decide)]
      exact hL2.2.1
    · rcases ol_5060 hc with rfl | rfl
      · rw [hne 50 (by decide) (by decide)]
        exact hL2.2.2.1 50 hc j hj
      · rw [hne 60 (by decide) (by decide)]
        exact hL2.2.2.1 60 hc j hj
  · rw [eI r (ol_uM_uq r hr) (mk0 r hr).1, ol_xr_o _ (hL.ne (ol_uM_uq r hr) (by decide) (mk0 r hr).2)]
theorem ol_XR.failed (hX : ol_XR ro I F ad ta pa n So T P g h b ra rb rc fl) (hL : ol_L ro F ad) (hV : ol_V n So T P) {kc kf : Nat} (hI : ol_XI ro ad ta pa h n So T P (ol_xr I ad (-1000009) (-1000009) 0) F I2 F2 b' kc kf) (xa xb xc : Int32) : ol_XR ro (ol_u2 (ol_xr I2 ad xa xb xc) (ad 1) 7 (I2 (ad 1) 7 + 1)) F2 ad ta pa n So (va_up T 4 b'.1) P g h b xa xb xc (fl + 1) ∧ ol_L ro F2 ad ∧ ol_mk ad I (ol_u2 (ol_xr I2 ad xa xb xc) (ad 1) 7 (I2 (ad 1) 7 + 1)) := by
  obtain ⟨hL2, hb2, hT2, hG2, h02, hf⟩ := hI
  obtain ⟨eI, eF⟩ := hX.xf hL hV hf
  have h1n : ∀ j, j ≤ 9 → 1 ≠ h + j := fun j hj => by rcases ol_5060 hX.hh with rfl | rfl <;> omega
  have O : ∀ c, c ≠ ad 1 → ol_u2 (ol_xr I2 ad xa xb xc) (ad 1) 7 (I2 (ad 1) 7 + 1) c = I2 c := fun c hc => by
    rw [ol_u2_a _ _ hc, ol_xr_o c hc]
  have e7 : I2 (ad 1) 7 = fl := by
    rw [eI 1 (by decide) h1n, ol_xr_k (by decide) (by decide) (by decide)]
    exact hX.2.2.2.2.2.2.2.2.2.2
  have hT3 : ol_XT ro (ol_u2 (ol_xr I2 ad xa xb xc) (ad 1) 7 (I2 (ad 1) 7 + 1)) F2 ad ta pa n So (va_up T 4 b'.1) P := by
    refine hT2.cg ?_ (fun t ht => O _ (hT2.nta hL2 (hV.up4 b'.1) ht (by decide))) rfl (fun t ht => ⟨rfl, rfl⟩)
    rw [ol_u2_k _ _ (by decide), ol_xr_k (by decide) (by decide) (by decide)]
  have g1 : ∀ j, j ≤ 9 → g + j ≠ 1 := fun j hj => by rcases ol_5060 hX.hg with rfl | rfl <;> omega
  have eg : ∀ j, j ≤ 9 → ol_u2 (ol_xr I2 ad xa xb xc) (ad 1) 7 (I2 (ad 1) 7 + 1) (ad (g + j)) = I (ad (g + j)) := fun j hj => by
    have iu := ol_gu hX.hg hj
    have n1 := hL.ne iu (show 1 ∈ ol_uq by decide) (g1 j hj)
    rw [O _ n1, eI _ iu (fun i hi => hX.gh hj hi), ol_xr_o _ n1]
  have mk0 : ∀ r ∈ ol_uM, (∀ j, j ≤ 9 → r ≠ h + j) ∧ r ≠ 1 := fun r hr => by
    have h3 : r < 50 ∧ r ≠ 1 := by
      revert r
      decide
    refine ⟨fun j hj => ?_, h3.2⟩
    rcases ol_5060 hX.hh with rfl | rfl <;> omega
  have d1 : ∀ {r : Nat}, r = 1 → ∀ j, j ≤ 9 → r ≠ h + j := fun e j hj => by rw [e]; exact h1n j hj
  refine ⟨⟨hX.1, hT3, by rw [eF 1 (by decide) (h1n 1 (by decide))]; exact hX.2.2.1, by rw [eF 1 (by decide) (h1n 1 (by decide))]; exact hX.2.2.2.1, ?_, by rw [eg 4 (by decide)]; exact hX.2.2.2.2.2.1, ?_, ?_, ?_, ?_, ?_⟩, hL2, fun r hr => ?_⟩
  · rw [eF _ (ol_gu hX.hg (by decide)) (hX.gh (by decide) (by decide))]
    exact hX.2.2.2.2.1.cg7 (fun j hj => eg j (by omega))
  · rw [O _ (hL.ne (ol_gu hX.hh (by decide)) (by decide) (Ne.symm (h1n 4 (by decide))))]
    exact h02
  · rw [ol_u2_k _ _ (by decide)]
    exact ol_xr_4.1
  · rw [ol_u2_k _ _ (by decide)]
    exact ol_xr_4.2.1
  · rw [ol_u2_k _ _ (by decide)]
    exact ol_xr_4.2.2
  · rw [ol_u2_s, e7]
  · have n1 := hL.ne (ol_uM_uq r hr) (show 1 ∈ ol_uq by decide) (mk0 r hr).2
    rw [O _ n1, eI r (ol_uM_uq r hr) (mk0 r hr).1, ol_xr_o _ n1]
/-! the reference after a load -/
theorem ol_fm.mo {I0 : Nat → Nat → Int32} {s : Nat} (hf : ol_fm ad s I0 I') : ol_mo ad I0 I' := fun a ha => funext fun k => hf a k (fun q => by
  rcases q with (q | q) | q | ⟨q, -⟩ | ⟨q, -⟩ | ⟨q, -⟩ | ⟨q, -⟩ | ⟨q, -⟩ | ⟨q, -⟩ | ⟨q, -⟩ | ⟨q, -⟩
  · rcases q with ⟨q, -⟩ | q | q
    · exact ha 10 (by decide) q
    · exact ha 29 (by decide) q
    · exact ha 30 (by decide) q
  · exact ha 41 (by decide) q
  · exact ha 28 (by decide) q
  · exact ha 31 (by decide) q
  · exact ha 36 (by decide) q
  · exact ha 40 (by decide) q
  · exact ha 32 (by decide) q
  · exact ha 33 (by decide) q
  · exact ha 34 (by decide) q
  · exact ha 35 (by decide) q
  · rcases q with q | q | q
    · exact ha 37 (by decide) q
    · exact ha 38 (by decide) q
    · exact ha 39 (by decide) q)
theorem ol_fm.m10 {I0 : Nat → Nat → Int32} {s : Nat} (hL : ol_L ro F ad) (hf : ol_fm ad s I0 I') {k : Nat} (h9 : k ≠ 9) (h11 : k ≠ 11) : I' (ad 10) k = I0 (ad 10) k := by
  have N : ∀ {r : Nat}, r ∈ ol_uq → r ≠ 10 → ad 10 ≠ ad r := fun hr h => hL.ne (by decide) hr (Ne.symm h)
  refine hf _ k (fun q => ?_)
  rcases q with (q | q) | q | ⟨q, -⟩ | ⟨q, -⟩ | ⟨q, -⟩ | ⟨q, -⟩ | ⟨q, -⟩ | ⟨q, -⟩ | ⟨q, -⟩ | ⟨q, -⟩
  · rcases q with ⟨-, q⟩ | q | q
    · exact q.elim h9 h11
    · exact N (by decide) (by decide) q
    · exact N (by decide) (by decide) q
  · exact N (by decide) (by decide) q
  · exact N (by decide) (by decide) q
  · exact N (by decide) (by decide) q
  · exact N (by decide) (by decide) q
  · exact N (by decide) (by decide) q
  · exact N (by decide) (by decide) q
  · exact N (by decide) (by decide) q
  · exact N (by decide) (by decide) q
  · exact N (by decide) (by decide) q
  · rcases q with q | q | q
    · exact N (by decide) (by decide) q
    · exact N (by decide) (by decide) q
    · exact N (by decide) (by decide) q
/-- a row of the other slot -/
theorem ol_fm.row {I0 : Nat → Nat → Int32} {s r k : Nat} (hL : ol_L ro F ad) (hf : ol_fm ad s I0 I') (hr : r ∈ [31, 32, 33, 34, 35, 36, 37, 38, 39, 40]) (hk : (r = 31 ∨ r = 36 ∨ r = 40 → k ≠ s) ∧ (r = 32 ∨ r = 33 ∨ r = 34 → ¬ (40 * s ≤ k ∧ k < 40 * s + 40)) ∧ (r = 35 → ¬ (41 * s ≤ k ∧ k < 41 * s + 41)) ∧ (r = 37 ∨ r = 38 ∨ r = 39 → ¬ (240 * s ≤ k ∧ k < 240 * s + 240))) : I' (ad r) k = I0 (ad r) k := by
  have hu : r ∈ ol_uq := by
    clear hk
    revert r
    decide
  have N : ∀ {q : Nat}, q ∈ ol_uq → ad r = ad q → r = q := fun hq e => Classical.byContradiction (fun h => hL.ne hu hq h e)
  have h3 : r ≠ 10 ∧ r ≠ 28 ∧ r ≠ 29 ∧ r ≠ 30 ∧ r ≠ 41 := by
    clear hk hu N
    revert r
    decide
  refine hf _ k (fun q => ?_)
  rcases q with (q | q) | q | ⟨q, q2⟩ | ⟨q, q2⟩ | ⟨q, q2⟩ | ⟨q, q2⟩ | ⟨q, q2⟩ | ⟨q, q2⟩ | ⟨q, q2⟩ | ⟨q, q2⟩
  · rcases q with ⟨q, -⟩ | q | q
    · exact h3.1 (N (by decide) q)
    · exact h3.2.2.1 (N (by decide) q)
    · exact h3.2.2.2.1 (N (by decide) q)
  · exact h3.2.2.2.2 (N (by decide) q)
  · exact h3.2.1 (N (by decide) q)
  · exact hk.1 (Or.inl (N (by decide) q)) q2
  · exact hk.1 (Or.inr (Or.inl (N (by decide) q))) q2
  · exact hk.1 (Or.inr (Or.inr (N (by decide) q))) q2
  · exact hk.2.1 (Or.inl (N (by decide) q)) q2
  · exact hk.2.1 (Or.inr (Or.inl (N (by decide) q))) q2
  · exact hk.2.1 (Or.inr (Or.inr (N (by decide) q))) q2
  · exact hk.2.2.1 (N (by decide) q) q2
  · rcases q with q | q | q
    · exact hk.2.2.2 (Or.inl (N (by decide) q)) q2
    · exact hk.2.2.2 (Or.inr (Or.inl (N (by decide) q))) q2
    · exact hk.2.2.2 (Or.inr (Or.inr (N (by decide) q))) q2
end OLRL
