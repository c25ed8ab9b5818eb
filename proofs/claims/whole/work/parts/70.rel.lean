/-! THE RELATION between the class, the picture and the reference -/
def ol_uM : List Nat := [10, 22, 23, 24, 25, 26, 27, 28, 29, 30, 31, 32, 33, 34, 35, 36, 37, 38, 39, 40, 41, 42]
/-- the reference's cells are as before -/
def ol_mk (ad : Nat → Nat) (I I' : Nat → Nat → Int32) : Prop := ∀ r ∈ ol_uM, I' (ad r) = I (ad r)
/-- all but the reference's cells are as before -/
def ol_mo (ad : Nat → Nat) (I I' : Nat → Nat → Int32) : Prop := ∀ a, (∀ r ∈ ol_uM, a ≠ ad r) → I' a = I a
/-- the class: g the graph that is loaded, h the other; ra rb rc what the latest load failed by, fl how many failed -/
def ol_XR (ro : Nat → Nat) (I : Nat → Nat → Int32) (F : Nat → Nat → Option Nat) (ad ta pa : Nat → Nat) (n : Nat) (So : Nat → Nat) (T : Nat → Nat → Int32) (P : Nat → Nat → Option Nat) (g h : Nat) (b : ol_B) (ra rb rc fl : Int32) : Prop :=
  ((g = 50 ∧ h = 60) ∨ (g = 60 ∧ h = 50)) ∧ ol_XT ro I F ad ta pa n So T P ∧ F (ad 1) 2 = some (ad g) ∧ F (ad 1) 3 = some (ad h) ∧ ol_XG (ol_vx I ad g) (F (ad (g + 1))) ta b (b.2.1 0 0) (b.2.1 0 0 + 1) ∧ I (ad (g + 4)) 0 = 0 ∧ I (ad (h + 4)) 0 = 0 ∧ I (ad 1) 4 = ra ∧ I (ad 1) 5 = rb ∧ I (ad 1) 6 = rc ∧ I (ad 1) 7 = fl
/-- the reference: w the slot that is loaded -/
def ol_MR (I : Nat → Nat → Int32) (ad : Nat → Nat) (n : Nat) (So : Nat → Nat) (T : Nat → Nat → Int32) (P : Nat → Nat → Option Nat) (w : Nat) (b : ol_B) (ra rb rc fl : Int32) : Prop :=
  ol_MT I ad n So T P ∧ I (ad 10) 12 = nI w ∧ w < 2 ∧ I (ad 31) w = nI (b.2.1 0 0) ∧ (b.2.1 0 0 ≠ 0 → ol_MG (ol_vf I ad) w b (b.2.1 0 0) (b.2.1 0 0 + 1)) ∧ I (ad 10) 23 = fl ∧ I (ad 10) 26 = rc ∧ (rc ≠ 0 → I (ad 10) 24 = ra ∧ I (ad 10) 25 = rb)
def ol_ST (ro : Nat → Nat) (I : Nat → Nat → Int32) (F : Nat → Nat → Option Nat) (ad : Nat → Nat) : Prop :=
  ∃ (ta pa : Nat → Nat) (n : Nat) (So : Nat → Nat) (T : Nat → Nat → Int32) (P : Nat → Nat → Option Nat) (g h w : Nat) (b : ol_B) (ra rb rc fl : Int32), ol_L ro F ad ∧ ol_V n So T P ∧ ol_GW n b ∧ ol_XR ro I F ad ta pa n So T P g h b ra rb rc fl ∧ ol_MR I ad n So T P w b ra rb rc fl
theorem ol_uM_uq : ∀ r ∈ ol_uM, r ∈ ol_uq := by decide
theorem ol_uX_uq : ∀ r ∈ ol_uX, r ∈ ol_uq := by decide
theorem ol_uXM : ∀ r ∈ ol_uX, ∀ q ∈ ol_uM, r ≠ q := by decide
theorem ol_mk_rf (ad : Nat → Nat) (I : Nat → Nat → Int32) : ol_mk ad I I := fun _ _ => rfl
theorem ol_mo_rf (ad : Nat → Nat) (I : Nat → Nat → Int32) : ol_mo ad I I := fun _ _ => rfl
theorem ol_mk.trans {ad : Nat → Nat} {I I' I'' : Nat → Nat → Int32} (h : ol_mk ad I I') (h2 : ol_mk ad I' I'') : ol_mk ad I I'' := fun r hr => (h2 r hr).trans (h r hr)
theorem ol_mo.trans {ad : Nat → Nat} {I I' I'' : Nat → Nat → Int32} (h : ol_mo ad I I') (h2 : ol_mo ad I' I'') : ol_mo ad I I'' := fun a ha => (h2 a ha).trans (h a ha)
theorem ol_mk.up {ad : Nat → Nat} {I I' : Nat → Nat → Int32} (h : ol_mk ad I I') {a : Nat} (k : Nat) (v : Int32) (ha : ∀ r ∈ ol_uM, ad r ≠ a) : ol_mk ad I (ol_u2 I' a k v) := fun r hr => by
  rw [ol_u2_a _ _ (ha r hr)]
  exact h r hr
theorem ol_mo.up {ad : Nat → Nat} {I I' : Nat → Nat → Int32} (h : ol_mo ad I I') {r : Nat} (k : Nat) (v : Int32) (hr : r ∈ ol_uM) : ol_mo ad I (ol_u2 I' (ad r) k v) := fun a ha => by
  rw [ol_u2_a _ _ (ha r hr)]
  exact h a ha
theorem ol_L.xm {ro : Nat → Nat} {F : Nat → Nat → Option Nat} {ad : Nat → Nat} (hL : ol_L ro F ad) {r q : Nat} (hr : r ∈ ol_uX) (hq : q ∈ ol_uM) : ad r ≠ ad q := hL.ne (ol_uX_uq r hr) (ol_uM_uq q hq) (ol_uXM r hr q hq)
theorem ol_gX {g j : Nat} (hg : g ∈ [50, 60]) (hj : j ≤ 9) : g + j ∈ ol_uX := by
  have h3 : j = 0 ∨ j = 1 ∨ j = 2 ∨ j = 3 ∨ j = 4 ∨ j = 5 ∨ j = 6 ∨ j = 7 ∨ j = 8 ∨ j = 9 := by omega
  rcases ol_5060 hg with rfl | rfl <;> rcases h3 with rfl | rfl | rfl | rfl | rfl | rfl | rfl | rfl | rfl | rfl <;> decide
theorem ol_XG.cg7 {f f' : Nat → Nat → Int32} {ph : Nat → Option Nat} {ta : Nat → Nat} {b : ol_B} {kc kf : Nat} (e : ∀ j, j ≤ 7 → f' j = f j) (h : ol_XG f ph ta b kc kf) : ol_XG f' ph ta b kc kf := by
  unfold ol_XG
  rw [e 0 (by decide), e 2 (by decide), e 3 (by decide), e 4 (by decide), e 5 (by decide), e 6 (by decide), e 7 (by decide)]
  exact h
section OLXR
variable {ro : Nat → Nat} {I I' : Nat → Nat → Int32} {F F' : Nat → Nat → Option Nat} {ad ta pa : Nat → Nat} {n : Nat} {So : Nat → Nat} {T : Nat → Nat → Int32} {P : Nat → Nat → Option Nat} {g h w : Nat} {b : ol_B} {ra rb rc fl : Int32}
theorem ol_XR.hg (hX : ol_XR ro I F ad ta pa n So T P g h b ra rb rc fl) : g ∈ [50, 60] := by
  rcases hX.1 with ⟨rfl, rfl⟩ | ⟨rfl, rfl⟩ <;> decide
theorem ol_XR.hh (hX : ol_XR ro I F ad ta pa n So T P g h b ra rb rc fl) : h ∈ [50, 60] := by
  rcases hX.1 with ⟨rfl, rfl⟩ | ⟨rfl, rfl⟩ <;> decide
theorem ol_XR.gh (hX : ol_XR ro I F ad ta pa n So T P g h b ra rb rc fl) {i j : Nat} (hi : i ≤ 9) (hj : j ≤ 9) : g + i ≠ h + j := by
  rcases hX.1 with ⟨rfl, rfl⟩ | ⟨rfl, rfl⟩ <;> omega
theorem ol_XR.xt (hX : ol_XR ro I F ad ta pa n So T P g h b ra rb rc fl) : ol_XT ro I F ad ta pa n So T P := hX.2.1
/-- only the things change, in their ints -/
theorem ol_XR.cg (hX : ol_XR ro I F ad ta pa n So T P g h b ra rb rc fl) {T' : Nat → Nat → Int32} {P' : Nat → Nat → Option Nat} (hT : ol_XT ro I' F' ad ta pa n So T' P') (e1 : I' (ad 1) = I (ad 1)) (eg : ∀ j, j ≤ 7 → I' (ad (g + j)) = I (ad (g + j))) (eh : I' (ad (h + 4)) = I (ad (h + 4))) (f1 : F' (ad 1) = F (ad 1)) (fg : F' (ad (g + 1)) = F (ad (g + 1))) : ol_XR ro I' F' ad ta pa n So T' P' g h b ra rb rc fl := by
  obtain ⟨a1, a2, a3, a4, a5, a6, a7, a8, a9, a10, a11⟩ := hX
  refine ⟨a1, hT, by rw [f1]; exact a3, by rw [f1]; exact a4, ?_, by rw [eg 4 (by decide)]; exact a6, by rw [eh]; exact a7, by rw [e1]; exact a8, by rw [e1]; exact a9, by rw [e1]; exact a10, by rw [e1]; exact a11⟩
  rw [fg]
  exact a5.cg7 (fun j hj => eg j hj)
theorem ol_XR.mo (hX : ol_XR ro I F ad ta pa n So T P g h b ra rb rc fl) (hL : ol_L ro F ad) (hV : ol_V n So T P) (e : ol_mo ad I I') : ol_XR ro I' F ad ta pa n So T P g h b ra rb rc fl := by
  have A : ∀ r ∈ ol_uX, I' (ad r) = I (ad r) := fun r hr => e _ (fun q hq => hL.xm hr hq)
  have B : ∀ t, t < n → I' (ta t) = I (ta t) := fun t ht => e _ (fun q hq => hX.xt.nta hL hV ht (ol_uM_uq q hq))
  refine hX.cg (hX.xt.cg (by rw [A 1 (by decide)]) B rfl (fun t ht => ⟨rfl, rfl⟩)) (A 1 (by decide)) (fun j hj => A _ (ol_gX hX.hg (by omega))) (A _ (ol_gX hX.hh (by decide))) rfl rfl
theorem ol_MR.mk (hM : ol_MR I ad n So T P w b ra rb rc fl) (e : ol_mk ad I I') : ol_MR I' ad n So T P w b ra rb rc fl := by
  obtain ⟨a1, a2, a3, a4, a5, a6, a7, a8⟩ := hM
  refine ⟨?_, by rw [e 10 (by decide)]; exact a2, a3, by rw [e 31 (by decide)]; exact a4, fun h0 => (a5 h0).congr (fun r hr => ?_), by rw [e 10 (by decide)]; exact a6, by rw [e 10 (by decide)]; exact a7, by rw [e 10 (by decide)]; exact a8⟩
  · unfold ol_MT at a1 ⊢
    rw [e 10 (by decide), e 22 (by decide), e 23 (by decide), e 24 (by decide), e 25 (by decide), e 26 (by decide), e 27 (by decide), e 28 (by decide)]
    exact a1
  · have : r ∈ ol_uM := by
      revert r
      decide
    exact e r this
/-- what the reference does elsewhere than in the things' rows -/
theorem ol_MR.cg (hM : ol_MR I ad n So T P w b ra rb rc fl) {T' : Nat → Nat → Int32} {P' : Nat → Nat → Option Nat} (hT : ol_MT I' ad n So T' P') (e10 : ∀ k, k ≠ 0 → k ≠ 9 → k ≠ 11 → I' (ad 10) k = I (ad 10) k) (e : ∀ r ∈ [31, 32, 33, 34, 35, 36, 37, 38, 39, 40], I' (ad r) = I (ad r)) : ol_MR I' ad n So T' P' w b ra rb rc fl := by
  obtain ⟨a1, a2, a3, a4, a5, a6, a7, a8⟩ := hM
  refine ⟨hT, by rw [e10 12 (by decide) (by decide) (by decide)]; exact a2, a3, by rw [e 31 (by decide)]; exact a4, fun h0 => (a5 h0).congr e, by rw [e10 23 (by decide) (by decide) (by decide)]; exact a6, by rw [e10 26 (by decide) (by decide) (by decide)]; exact a7, ?_⟩
  rw [e10 24 (by decide) (by decide) (by decide), e10 25 (by decide) (by decide) (by decide)]
  exact a8
theorem ol_MR.sq (hM : ol_MR I ad n So T P w b ra rb rc fl) (hL : ol_L ro F ad) (hs : ol_sq ad I I') : ol_MR I' ad n So T P w b ra rb rc fl := by
  refine hM.cg (hM.1.sq hL hs) (fun k _ h9 h11 => hs.mo hL k h9 h11) (fun r hr => funext fun k => ?_)
  have h2 : r ∈ ol_uq ∧ r ≠ 10 ∧ r ≠ 29 ∧ r ≠ 30 := by
    revert r
    decide
  exact hs.row hL r k h2.1 h2.2.1 h2.2.2.1 h2.2.2.2
theorem ol_sq.mo2 (hs : ol_sq ad I I') : ol_mo ad I I' := fun a ha => funext fun k => hs a k (fun q => by
  rcases q with ⟨q, -⟩ | q | q
  · exact ha 10 (by decide) q
  · exact ha 29 (by decide) q
  · exact ha 30 (by decide) q)
/-! one number of a thing -/
theorem ol_u2_t {α : Type} (T : Nat → Nat → α) {i j t : Nat} (v : α) (i' : Nat) (h : t ≠ j) : ol_u2 T i j v i' t = T i' t := by
  rw [ol_u2_v, if_neg (fun q => h q.2)]
theorem ol_XT.setT (hX : ol_XT ro I F ad ta pa n So T P) (hL : ol_L ro F ad) (hV : ol_V n So T P) {j : Nat} (hj : j < n) (f i : Nat) (hfi : (f, i) ∈ [(2, 1), (3, 2), (5, 3)]) (v : Int32) : ol_XT ro (ol_u2 I (ta j) f v) F ad ta pa n So (ol_u2 T i j v) P := by
  refine ⟨by rw [ol_u2_a I _ (Ne.symm (hX.nta hL hV hj (r := 1) (by decide)))]; exact hX.1, fun t ht => ⟨(hX.2.1 t ht).1, ?_⟩, hX.2.2⟩
  obtain ⟨c1, c2, c3, c4, c5, c6, c7, c8, c9, c10⟩ := (hX.2.1 t ht).2
  by_cases e : t = j
  · subst e
    simp only [List.mem_cons, Prod.mk.injEq, List.not_mem_nil, or_false] at hfi
    rcases hfi with ⟨rfl, rfl⟩ | ⟨rfl, rfl⟩ | ⟨rfl, rfl⟩
    · exact ⟨c1, by rw [ol_u2_k _ _ (by decide)]; exact c2, by rw [ol_u2_s, ol_u2_s], by rw [ol_u2_k _ _ (by decide), ol_u2_a _ _ (by decide)]; exact c4, by rw [ol_u2_k _ _ (by decide), ol_u2_a _ _ (by decide)]; exact c5, by rw [ol_u2_k _ _ (by decide), ol_u2_a _ _ (by decide)]; exact c6, c7, c8, c9, c10⟩
    · exact ⟨c1, by rw [ol_u2_k _ _ (by decide)]; exact c2, by rw [ol_u2_k _ _ (by decide), ol_u2_a _ _ (by decide)]; exact c3, by rw [ol_u2_s, ol_u2_s], by rw [ol_u2_k _ _ (by decide), ol_u2_a _ _ (by decide)]; exact c5, by rw [ol_u2_k _ _ (by decide), ol_u2_a _ _ (by decide)]; exact c6, c7, c8, c9, c10⟩
    · exact ⟨c1, by rw [ol_u2_k _ _ (by decide)]; exact c2, by rw [ol_u2_k _ _ (by decide), ol_u2_a _ _ (by decide)]; exact c3, by rw [ol_u2_k _ _ (by decide), ol_u2_a _ _ (by decide)]; exact c4, by rw [ol_u2_s, ol_u2_s], by rw [ol_u2_k _ _ (by decide), ol_u2_a _ _ (by decide)]; exact c6, c7, c8, c9, c10⟩
  · have hne : ta t ≠ ta j := fun q => e (hX.inj hV.1 ht hj q)
    unfold ol_xt
    rw [ol_u2_a I v hne, ol_u2_t T v 1 e, ol_u2_t T v 2 e, ol_u2_t T v 3 e, ol_u2_t T v 4 e]
    exact ⟨c1, c2, c3, c4, c5, c6, c7, c8, c9, c10⟩
theorem ol_XR.setT (hX : ol_XR ro I F ad ta pa n So T P g h b ra rb rc fl) (hL : ol_L ro F ad) (hV : ol_V n So T P) {j : Nat} (hj : j < n) (f i : Nat) (hfi : (f, i) ∈ [(2, 1), (3, 2), (5, 3)]) (v : Int32) : ol_XR ro (ol_u2 I (ta j) f v) F ad ta pa n So (ol_u2 T i j v) P g h b ra rb rc fl ∧ ol_mk ad I (ol_u2 I (ta j) f v) := by
  have N : ∀ r ∈ ol_uq, ad r ≠ ta j := fun r hr => Ne.symm (hX.xt.nta hL hV hj hr)
  refine ⟨hX.cg (hX.xt.setT hL hV hj f i hfi v) (ol_u2_a _ _ (N 1 (by decide))) (fun k hk => ol_u2_a _ _ (N _ (ol_gu hX.hg (by omega)))) (ol_u2_a _ _ (N _ (ol_gu hX.hh (by decide)))) rfl rfl, (ol_mk_rf ad I).up f v (fun r hr => N r (ol_uM_uq r hr))⟩
theorem ol_MT.setT (hT : ol_MT I ad n So T P) (hL : ol_L ro F ad) {j : Nat} (r i : Nat) (hri : (r, i) ∈ [(23, 1), (24, 2), (27, 3)]) (v : Int32) : ol_MT (ol_u2 I (ad r) j v) ad n So (ol_u2 T i j v) P := by
  have N : ∀ {q p : Nat}, q ∈ ol_uq → p ∈ ol_uq → q ≠ p → ad q ≠ ad p := fun a b c => hL.ne a b c
  simp only [List.mem_cons, Prod.mk.injEq, List.not_mem_nil, or_false] at hri
  refine ⟨?_, fun t ht => ?_⟩
  · rcases hri with ⟨rfl, rfl⟩ | ⟨rfl, rfl⟩ | ⟨rfl, rfl⟩ <;> (rw [ol_u2_a _ _ (N (by decide) (by decide) (by decide))]; exact hT.1)
  obtain ⟨c1, c2, c3, c4, c5, c6, c7⟩ := hT.2 t ht
  have S : ∀ q, ol_u2 I (ad q) j v (ad q) t = if t = j then v else I (ad q) t := fun q => by
    rw [ol_u2_v]
    by_cases e : t = j <;> simp [e]
  have S2 : ∀ q, ol_u2 T q j v q t = if t = j then v else T q t := fun q => by
    rw [ol_u2_v]
    by_cases e : t = j <;> simp [e]
  rcases hri with ⟨rfl, rfl⟩ | ⟨rfl, rfl⟩ | ⟨rfl, rfl⟩
  · rw [S 23, S2 1, ol_u2_a _ _ (N (show 22 ∈ ol_uq by decide) (show 23 ∈ ol_uq by decide) (by decide)), ol_u2_a _ _ (N (show 24 ∈ ol_uq by decide) (show 23 ∈ ol_uq by decide) (by decide)), ol_u2_a _ _ (N (show 27 ∈ ol_uq by decide) (show 23 ∈ ol_uq by decide) (by decide)), ol_u2_a _ _ (N (show 28 ∈ ol_uq by decide) (show 23 ∈ ol_uq by decide) (by decide)), ol_u2_a _ _ (N (show 25 ∈ ol_uq by decide) (show 23 ∈ ol_uq by decide) (by decide)), ol_u2_a _ _ (N (show 26 ∈ ol_uq by decide) (show 23 ∈ ol_uq by decide) (by decide)), ol_u2_a T _ (show 2 ≠ 1 by decide), ol_u2_a T _ (show 3 ≠ 1 by decide), ol_u2_a T _ (show 4 ≠ 1 by decide)]
    exact ⟨c1, by rw [c2], c3, c4, c5, c6, c7⟩
  · rw [S 24, S2 2, ol_u2_a _ _ (N (show 22 ∈ ol_uq by decide) (show 24 ∈ ol_uq by decide) (by decide)), ol_u2_a _ _ (N (show 23 ∈ ol_uq by decide) (show 24 ∈ ol_uq by decide) (by decide)), ol_u2_a _ _ (N (show 27 ∈ ol_uq by decide) (show 24 ∈ ol_uq by decide) (by decide)), ol_u2_a _ _ (N (show 28 ∈ ol_uq by decide) (show 24 ∈ ol_uq by decide) (by decide)), ol_u2_a _ _ (N (show 25 ∈ ol_uq by decide) (show 24 ∈ ol_uq by decide) (by decide)), ol_u2_a _ _ (N (show 26 ∈ ol_uq by decide) (show 24 ∈ ol_uq by decide) (by decide)), ol_u2_a T _ (show 1 ≠ 2 by decide), ol_u2_a T _ (show 3 ≠ 2 by decide), ol_u2_a T _ (show 4 ≠ 2 by decide)]
    exact ⟨c1, c2, by rw [c3], c4, c5, c6, c7⟩
  · rw [S 27, S2 3, ol_u2_a _ _ (N (show 22 ∈ ol_uq by decide) (show 27 ∈ ol_uq by decide) (by decide)), ol_u2_a _ _ (N (show 23 ∈ ol_uq by decide) (show 27 ∈ ol_uq by decide) (by decide)), ol_u2_a _ _ (N (show 24 ∈ ol_uq by decide) (show 27 ∈ ol_uq by decide) (by decide)), ol_u2_a _ _ (N (show 28 ∈ ol_uq by decide) (show 27 ∈ ol_uq by decide) (by decide)), ol_u2_a _ _ (N (show 25 ∈ ol_uq by decide) (show 27 ∈ ol_uq by decide) (by decide)), ol_u2_a _ _ (N (show 26 ∈ ol_uq by decide) (show 27 ∈ ol_uq by decide) (by decide)), ol_u2_a T _ (show 1 ≠ 3 by decide), ol_u2_a T _ (show 2 ≠ 3 by decide), ol_u2_a T _ (show 4 ≠ 3 by decide)]
    exact ⟨c1, c2, c3, by rw [c4], c5, c6, c7⟩
theorem ol_MR.rows (hL : ol_L ro F ad) {r0 : Nat} (h0 : r0 ∈ [22, 23, 24, 25, 26, 27, 28, 29, 30, 41, 42]) (k : Nat) (v : Int32) : (∀ k2, ol_u2 I (ad r0) k v (ad 10) k2 = I (ad 10) k2) ∧ ∀ r ∈ [31, 32, 33, 34, 35, 36, 37, 38, 39, 40], ol_u2 I (ad r0) k v (ad r) = I (ad r) := by
  have h3 : r0 ∈ ol_uq ∧ r0 ≠ 10 ∧ ∀ r ∈ [31, 32, 33, 34, 35, 36, 37, 38, 39, 40], r ∈ ol_uq ∧ r ≠ r0 := by
    revert r0
    decide
  refine ⟨fun k2 => by rw [ol_u2_a _ _ (hL.ne (by decide) h3.1 (Ne.symm h3.2.1))], fun r hr => ol_u2_a _ _ (hL.ne (h3.2.2 r hr).1 h3.1 (h3.2.2 r hr).2)⟩
theorem ol_MR.setT (hM : ol_MR I ad n So T P w b ra rb rc fl) (hL : ol_L ro F ad) {j : Nat} (r i : Nat) (hri : (r, i) ∈ [(23, 1), (24, 2), (27, 3)]) (v : Int32) : ol_MR (ol_u2 I (ad r) j v) ad n So (ol_u2 T i j v) P w b ra rb rc fl := by
  have h0 : r ∈ [22, 23, 24, 25, 26, 27, 28, 29, 30, 41, 42] := by
    simp only [List.mem_cons, Prod.mk.injEq, List.not_mem_nil, or_false] at hri
    rcases hri with ⟨rfl, rfl⟩ | ⟨rfl, rfl⟩ | ⟨rfl, rfl⟩ <;> decide
  obtain ⟨e1, e2⟩ := ol_MR.rows (I := I) hL h0 j v
  exact hM.cg (hM.1.setT hL r i hri v) (fun k _ _ _ => e1 k) e2
theorem ol_V.setT (hV : ol_V n So T P) {i j : Nat} (v : Int32) (h : i ≠ 3 ∨ v = 0 ∨ v = 1) : ol_V n So (ol_u2 T i j v) P := by
  refine ⟨hV.1, fun t ht => ⟨(hV.2 t ht).1, ?_, (hV.2 t ht).2.2⟩⟩
  rw [ol_u2_v]
  by_cases e : 3 = i ∧ t = j
  · rw [if_pos e]
    rcases h with h | h
    · exact absurd e.1.symm h
    · exact h
  · rw [if_neg e]
    exact (hV.2 t ht).2.1
end OLXR
