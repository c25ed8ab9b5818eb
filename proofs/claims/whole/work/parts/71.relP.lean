section OLRP
variable {ro : Nat → Nat} {I I' : Nat → Nat → Int32} {F F' : Nat → Nat → Option Nat} {ad ta pa : Nat → Nat} {n : Nat} {So : Nat → Nat} {T : Nat → Nat → Int32} {P P' : Nat → Nat → Option Nat} {g h w : Nat} {b : ol_B} {ra rb rc fl : Int32}
/-! references of the things -/
theorem ol_L.cg (hL : ol_L ro F ad) (e : ∀ r ∈ ol_uq, F' (ad r) = F (ad r)) : ol_L ro F' ad := by
  refine ⟨hL.1, by rw [e 1 (by decide)]; exact hL.2.1, fun c hc j hj => ?_, fun q hq => by rw [e 10 (by decide)]; exact hL.2.2.2 q hq⟩
  rcases ol_5060 hc with rfl | rfl
  · rw [e 50 (by decide)]
    exact hL.2.2.1 50 hc j hj
  · rw [e 60 (by decide)]
    exact hL.2.2.1 60 hc j hj
theorem ol_XR.setP (hX : ol_XR ro I F ad ta pa n So T P g h b ra rb rc fl) (hL : ol_L ro F ad) (eF : ∀ r ∈ ol_uq, F' (ad r) = F (ad r)) (eT : ∀ t, t < n → F' (ta t) 1 = F (ta t) 1 ∧ F' (ta t) 4 = (P' 0 t).map ta ∧ ∀ i, i < 6 → F' (pa t) i = (P' (1 + i) t).map ta) : ol_XR ro I F' ad ta pa n So T P' g h b ra rb rc fl ∧ ol_L ro F' ad := by
  refine ⟨hX.cg ⟨hX.xt.1, fun t ht => ?_, hX.xt.2.2⟩ rfl (fun _ _ => rfl) rfl (eF 1 (by decide)) (eF _ (ol_gu hX.hg (by decide))), hL.cg eF⟩
  obtain ⟨h1, c1, c2, c3, c4, c5, c6, c7, c8, c9, c10⟩ := hX.xt.2.1 t ht
  obtain ⟨e1, e2, e3⟩ := eT t ht
  exact ⟨by rw [eF 11 (by decide)]; exact h1, c1, c2, c3, c4, c5, c6, by rw [e1]; exact c7, c8, e2, e3⟩
theorem ol_XT.tp (hX : ol_XT ro I F ad ta pa n So T P) (hV : ol_V n So T P) {t j : Nat} (ht : t < n) (hj : j < n) : pa t ≠ ta j := by
  intro e
  have h1 := (hX.2.1 t ht).2.2.2.2.2.2.2.2.1
  have h2 := (hX.2.1 j hj).2.1
  have h3 := (hV.2 j hj).1
  rw [e, h2] at h1
  omega
theorem ol_XR.next (hX : ol_XR ro I F ad ta pa n So T P g h b ra rb rc fl) (hL : ol_L ro F ad) (hV : ol_V n So T P) {j : Nat} (hj : j < n) (q : Option Nat) : ol_XR ro I (ol_u2 F (ta j) 4 (q.map ta)) ad ta pa n So T (ol_u2 P 0 j q) g h b ra rb rc fl ∧ ol_L ro (ol_u2 F (ta j) 4 (q.map ta)) ad := by
  refine hX.setP hL (fun r hr => ol_u2_a _ _ (Ne.symm (hX.xt.nta hL hV hj hr))) (fun t ht => ?_)
  obtain ⟨-, c1, c2, c3, c4, c5, c6, c7, c8, c9, c10⟩ := hX.xt.2.1 t ht
  refine ⟨?_, ?_, fun i hi => ?_⟩
  · by_cases e : ta t = ta j
    · rw [e, ol_u2_k _ _ (by decide)]
    · rw [ol_u2_a _ _ e]
  · by_cases e : t = j
    · subst e
      rw [ol_u2_s, ol_u2_s]
    · rw [ol_u2_a _ _ (fun z => e (hX.xt.inj hV.1 ht hj z)), ol_u2_t P q 0 e]
      exact c9
  · rw [ol_u2_a _ _ (hX.xt.tp hV ht hj), ol_u2_a _ _ (by omega)]
    exact c10 i hi
theorem ol_XR.place (hX : ol_XR ro I F ad ta pa n So T P g h b ra rb rc fl) (hL : ol_L ro F ad) (hV : ol_V n So T P) {j i0 : Nat} (hj : j < n) (q : Option Nat) : ol_XR ro I (ol_u2 F (pa j) i0 (q.map ta)) ad ta pa n So T (ol_u2 P (1 + i0) j q) g h b ra rb rc fl ∧ ol_L ro (ol_u2 F (pa j) i0 (q.map ta)) ad := by
  refine hX.setP hL (fun r hr => ol_u2_a _ _ (Ne.symm (hX.xt.npa hL hj hr))) (fun t ht => ?_)
  obtain ⟨-, c1, c2, c3, c4, c5, c6, c7, c8, c9, c10⟩ := hX.xt.2.1 t ht
  have e1 : ta t ≠ pa j := Ne.symm (hX.xt.tp hV hj ht)
  refine ⟨by rw [ol_u2_a _ _ e1], by rw [ol_u2_a _ _ e1, ol_u2_a _ _ (by omega)]; exact c9, fun i hi => ?_⟩
  by_cases e : t = j
  · subst e
    by_cases e2 : i = i0
    · subst e2
      rw [ol_u2_s, ol_u2_s]
    · rw [ol_u2_k _ _ e2, ol_u2_a _ _ (by omega)]
      exact c10 i hi
  · rw [ol_u2_a _ _ (fun z => e (hX.xt.2.2 j t hj ht z)), ol_u2_t P q _ e]
    exact c10 i hi
/-- m places from ka on of jt come to kb on of ju -/
def ol_cpP (P : Nat → Nat → Option Nat) (jt ka ju kb m : Nat) : Nat → Nat → Option Nat := fun r x => if x = ju ∧ kb < r ∧ r < 1 + kb + m then P (r - kb + ka) jt else P r x
theorem ol_cpP_y {jt ka ju kb m i : Nat} (hi : i < m) : ol_cpP P jt ka ju kb m (1 + (kb + i)) ju = P (1 + (ka + i)) jt := by
  unfold ol_cpP
  rw [if_pos ⟨rfl, by omega, by omega⟩, show 1 + (kb + i) - kb + ka = 1 + (ka + i) by omega]
theorem ol_cpP_n {jt ka ju kb m r x : Nat} (h : x = ju → ∀ i, i < m → r ≠ 1 + (kb + i)) : ol_cpP P jt ka ju kb m r x = P r x := by
  unfold ol_cpP
  rw [if_neg (fun q => h q.1 (r - 1 - kb) (by omega) (by omega))]
theorem ol_XR.copy (hX : ol_XR ro I F ad ta pa n So T P g h b ra rb rc fl) (hL : ol_L ro F ad) (hV : ol_V n So T P) {jt ju ka kb m : Nat} (hjt : jt < n) (hju : ju < n) (hka : ka + m ≤ 6) (g1 : ∀ c2, c2 ≠ pa ju → F' c2 = F c2) (g2 : ∀ i, i < m → F' (pa ju) (kb + i) = F (pa jt) (ka + i)) (g3 : ∀ j, (∀ i, i < m → j ≠ kb + i) → F' (pa ju) j = F (pa ju) j) : ol_XR ro I F' ad ta pa n So T (ol_cpP P jt ka ju kb m) g h b ra rb rc fl ∧ ol_L ro F' ad := by
  refine hX.setP hL (fun r hr => g1 _ (Ne.symm (hX.xt.npa hL hju hr))) (fun t ht => ?_)
  obtain ⟨-, c1, c2, c3, c4, c5, c6, c7, c8, c9, c10⟩ := hX.xt.2.1 t ht
  have e1 : ta t ≠ pa ju := Ne.symm (hX.xt.tp hV hju ht)
  refine ⟨by rw [g1 _ e1], by rw [g1 _ e1, ol_cpP_n (fun _ i hi => by omega)]; exact c9, fun i hi => ?_⟩
  by_cases e : t = ju
  · subst e
    by_cases e2 : kb ≤ i ∧ i < kb + m
    · obtain ⟨k, rfl⟩ : ∃ k, i = kb + k := ⟨i - kb, by omega⟩
      rw [g2 k (by omega), ol_cpP_y (by omega)]
      exact (hX.xt.2.1 jt hjt).2.2.2.2.2.2.2.2.2.2 (ka + k) (by omega)
    · rw [g3 i (fun k hk => by omega), ol_cpP_n (fun _ k hk => by omega)]
      exact c10 i hi
  · rw [g1 _ (fun z => e (hX.xt.2.2 ju t hju ht z)), ol_cpP_n (fun z => absurd z e)]
    exact c10 i hi
theorem ol_V.setP (hV : ol_V n So T P) (h : ∀ t, t < n → ∀ j, j < 7 → ∀ u, P' j t = some u → u < n) : ol_V n So T P' := ⟨hV.1, fun t ht => ⟨(hV.2 t ht).1, (hV.2 t ht).2.1, h t ht⟩⟩
theorem ol_V.up1 (hV : ol_V n So T P) {i j : Nat} {q : Option Nat} (hq : ∀ u, q = some u → u < n) : ol_V n So T (ol_u2 P i j q) := by
  refine hV.setP (fun t ht r hr u hu => ?_)
  rw [ol_u2_v] at hu
  by_cases e : r = i ∧ t = j
  · rw [if_pos e] at hu
    exact hq u hu
  · rw [if_neg e] at hu
    exact (hV.2 t ht).2.2 r hr u hu
theorem ol_V.copy (hV : ol_V n So T P) {jt ka ju kb m : Nat} (hjt : jt < n) (hka : ka + m ≤ 6) : ol_V n So T (ol_cpP P jt ka ju kb m) := by
  refine hV.setP (fun t ht r hr u hu => ?_)
  unfold ol_cpP at hu
  by_cases e : t = ju ∧ kb < r ∧ r < 1 + kb + m
  · rw [if_pos e] at hu
    exact (hV.2 jt hjt).2.2 _ (by omega) u hu
  · rw [if_neg e] at hu
    exact (hV.2 t ht).2.2 r hr u hu
/-! the same in the reference -/
theorem ol_MT.setP (hT : ol_MT I ad n So T P) (hL : ol_L ro F ad) (e : ∀ a, a ≠ ad 25 → a ≠ ad 26 → I' a = I a) (e25 : ∀ t, t < n → I' (ad 25) t = ol_e (P' 0 t)) (e26 : ∀ t, t < n → ∀ i, i < 6 → I' (ad 26) (6 * t + i) = ol_e (P' (1 + i) t)) : ol_MT I' ad n So T P' := by
  have E : ∀ r ∈ [10, 22, 23, 24, 27, 28], I' (ad r) = I (ad r) := fun r hr => by
    have h3 : r ∈ ol_uq ∧ r ≠ 25 ∧ r ≠ 26 := by
      revert r
      decide
    exact e _ (hL.ne h3.1 (by decide) h3.2.1) (hL.ne h3.1 (by decide) h3.2.2)
  refine ⟨by rw [E 10 (by decide)]; exact hT.1, fun t ht => ?_⟩
  obtain ⟨c1, c2, c3, c4, c5, c6, c7⟩ := hT.2 t ht
  rw [E 22 (by decide), E 23 (by decide), E 24 (by decide), E 27 (by decide), E 28 (by decide)]
  exact ⟨c1, c2, c3, c4, c5, e25 t ht, e26 t ht⟩
theorem ol_MR.setP (hM : ol_MR I ad n So T P w b ra rb rc fl) (hL : ol_L ro F ad) (e : ∀ a, a ≠ ad 25 → a ≠ ad 26 → I' a = I a) (e25 : ∀ t, t < n → I' (ad 25) t = ol_e (P' 0 t)) (e26 : ∀ t, t < n → ∀ i, i < 6 → I' (ad 26) (6 * t + i) = ol_e (P' (1 + i) t)) : ol_MR I' ad n So T P' w b ra rb rc fl := by
  refine hM.cg (hM.1.setP hL e e25 e26) (fun k _ _ _ => by rw [e _ (hL.ne (by decide) (by decide) (by decide)) (hL.ne (by decide) (by decide) (by decide))]) (fun r hr => ?_)
  have h3 : r ∈ ol_uq ∧ r ≠ 25 ∧ r ≠ 26 := by
    revert r
    decide
  exact e _ (hL.ne h3.1 (by decide) h3.2.1) (hL.ne h3.1 (by decide) h3.2.2)
theorem ol_MR.next (hM : ol_MR I ad n So T P w b ra rb rc fl) (hL : ol_L ro F ad) (j : Nat) (q : Option Nat) : ol_MR (ol_u2 I (ad 25) j (ol_e q)) ad n So T (ol_u2 P 0 j q) w b ra rb rc fl := by
  refine hM.setP hL (fun a h1 _ => ol_u2_a _ _ h1) (fun t ht => ?_) (fun t ht i hi => ?_)
  · by_cases e : t = j
    · subst e
      rw [ol_u2_s, ol_u2_s]
    · rw [ol_u2_k _ _ e, ol_u2_t P q 0 e]
      exact (hM.1.2 t ht).2.2.2.2.2.1
  · rw [ol_u2_a _ _ (hL.ne (by decide) (by decide) (by decide)), ol_u2_a _ _ (by omega)]
    exact (hM.1.2 t ht).2.2.2.2.2.2 i hi
theorem ol_MR.place (hM : ol_MR I ad n So T P w b ra rb rc fl) (hL : ol_L ro F ad) {j i0 : Nat} (h0 : i0 < 6) (q : Option Nat) : ol_MR (ol_u2 I (ad 26) (6 * j + i0) (ol_e q)) ad n So T (ol_u2 P (1 + i0) j q) w b ra rb rc fl := by
  refine hM.setP hL (fun a _ h1 => ol_u2_a _ _ h1) (fun t ht => ?_) (fun t ht i hi => ?_)
  · rw [ol_u2_a _ _ (hL.ne (by decide) (by decide) (by decide)), ol_u2_a _ _ (by omega)]
    exact (hM.1.2 t ht).2.2.2.2.2.1
  · by_cases e : t = j ∧ i = i0
    · obtain ⟨rfl, rfl⟩ := e
      rw [ol_u2_s, ol_u2_s]
    · rw [ol_u2_k _ _ (by omega), ol_u2_v, if_neg (by omega)]
      exact (hM.1.2 t ht).2.2.2.2.2.2 i hi
theorem ol_MR.copy (hM : ol_MR I ad n So T P w b ra rb rc fl) (hL : ol_L ro F ad) {jt ju ka kb m : Nat} (hju : ju < n) (hkb : kb + m ≤ 6) (g1 : ∀ a, a ≠ ad 26 → I' a = I a) (g2 : ∀ i, i < m → I' (ad 26) (6 * ju + (kb + i)) = ol_e (P (1 + (ka + i)) jt)) (g3 : ∀ j, (∀ i, i < m → j ≠ 6 * ju + (kb + i)) → I' (ad 26) j = I (ad 26) j) : ol_MR I' ad n So T (ol_cpP P jt ka ju kb m) w b ra rb rc fl := by
  refine hM.setP hL (fun a _ h1 => g1 a h1) (fun t ht => ?_) (fun t ht i hi => ?_)
  · rw [g1 _ (hL.ne (by decide) (by decide) (by decide)), ol_cpP_n (fun _ i hi => by omega)]
    exact (hM.1.2 t ht).2.2.2.2.2.1
  · by_cases e : t = ju ∧ kb ≤ i ∧ i < kb + m
    · obtain ⟨rfl, e1, e2⟩ := e
      obtain ⟨k, rfl⟩ : ∃ k, i = kb + k := ⟨i - kb, by omega⟩
      rw [g2 k (by omega), ol_cpP_y (by omega)]
    · rw [g3 _ (fun k hk => by omega), ol_cpP_n (fun z k hk => by omega)]
      exact (hM.1.2 t ht).2.2.2.2.2.2 i hi
end OLRP
