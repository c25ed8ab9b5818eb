section OLRN
variable {ro : Nat → Nat} {I I' : Nat → Nat → Int32} {F F' : Nat → Nat → Option Nat} {ad ta pa : Nat → Nat} {n : Nat} {So : Nat → Nat} {T : Nat → Nat → Int32} {P P' : Nat → Nat → Option Nat} {g h w : Nat} {b : ol_B} {ra rb rc fl : Int32}
/-! a new thing -/
def ol_tn (T : Nat → Nat → Int32) (n : Nat) (k v : Int32) : Nat → Nat → Int32 := ol_u2 (ol_u2 (ol_u2 (ol_u2 T 1 n k) 2 n v) 3 n 0) 4 n 0
def ol_pn (P : Nat → Nat → Option Nat) (n : Nat) : Nat → Nat → Option Nat := fun r x => if x = n then none else P r x
theorem ol_tn_o {k v : Int32} (i : Nat) {t : Nat} (ht : t ≠ n) : ol_tn T n k v i t = T i t := by
  unfold ol_tn
  rw [ol_u2_t _ _ _ ht, ol_u2_t _ _ _ ht, ol_u2_t _ _ _ ht, ol_u2_t _ _ _ ht]
theorem ol_tn_1 {k v : Int32} : ol_tn T n k v 1 n = k := by
  unfold ol_tn
  rw [ol_u2_a _ _ (by decide), ol_u2_a _ _ (by decide), ol_u2_a _ _ (by decide), ol_u2_s]
theorem ol_tn_2 {k v : Int32} : ol_tn T n k v 2 n = v := by
  unfold ol_tn
  rw [ol_u2_a _ _ (by decide), ol_u2_a _ _ (by decide), ol_u2_s]
theorem ol_tn_3 {k v : Int32} : ol_tn T n k v 3 n = 0 := by
  unfold ol_tn
  rw [ol_u2_a _ _ (by decide), ol_u2_s]
theorem ol_tn_4 {k v : Int32} : ol_tn T n k v 4 n = 0 := by
  unfold ol_tn
  rw [ol_u2_s]
theorem ol_pn_n (r : Nat) : ol_pn P n r n = none := if_pos rfl
theorem ol_pn_o (r : Nat) {t : Nat} (ht : t ≠ n) : ol_pn P n r t = P r t := if_neg ht
theorem ol_V.thing (hV : ol_V n So T P) (hn : n < 40) {s : Nat} (hs : s ≤ 6) (k v : Int32) : ol_V (n + 1) (va_up So n s) (ol_tn T n k v) (ol_pn P n) := by
  refine ⟨by omega, fun t ht => ?_⟩
  by_cases e : t = n
  · subst e
    rw [va_up_self, ol_tn_3]
    refine ⟨hs, Or.inl rfl, fun j _ u hu => ?_⟩
    rw [ol_pn_n] at hu
    cases hu
  · rw [va_up_ne _ _ e, ol_tn_o 3 e]
    obtain ⟨h1, h2, h3⟩ := hV.2 t (by omega)
    refine ⟨h1, h2, fun j hj u hu => ?_⟩
    rw [ol_pn_o j e] at hu
    have := h3 j hj u hu
    omega
theorem ol_GW.succ (hW : ol_GW n b) : ol_GW (n + 1) b := ⟨hW.1, fun k hk => Nat.lt_succ_of_lt (hW.2.1 k hk), hW.2.2⟩
theorem ol_map_cg {q : Option Nat} {f f' : Nat → Nat} (h : ∀ u, q = some u → f' u = f u) : q.map f' = q.map f := by
  cases q with
  | none => rfl
  | some u => exact congrArg some (h u rfl)
theorem ol_XR.thing (hX : ol_XR ro I F ad ta pa n So T P g h b ra rb rc fl) (hL : ol_L ro F ad) (hV : ol_V n So T P) (hW : ol_GW n b) {a q : Nat} (ha : ro a = 0) (hq : ro q = 0) (haq : a ≠ q) {s : Nat} (k v : Int32) : ol_XR (va_up (va_up ro a (s + 2)) q 12) (ol_u2 (ol_nt (va_up I a (fun _ => 0)) a q (nI n) k v) (ad 1) 1 (nI (n + 1))) (ol_u2 (ol_nf (va_up F a (fun _ => none)) a q) (ad 11) n (some a)) ad (va_up ta n a) (va_up pa n q) (n + 1) (va_up So n s) (ol_tn T n k v) (ol_pn P n) g h b ra rb rc fl ∧ ol_L (va_up (va_up ro a (s + 2)) q 12) (ol_u2 (ol_nf (va_up F a (fun _ => none)) a q) (ad 11) n (some a)) ad ∧ ol_mk ad I (ol_u2 (ol_nt (va_up I a (fun _ => 0)) a q (nI n) k v) (ad 1) 1 (nI (n + 1))) := by
  have Na : ∀ c, ro c ≠ 0 → c ≠ a := fun c hc e => hc (by rw [e]; exact ha)
  have Nq : ∀ c, ro c ≠ 0 → c ≠ q := fun c hc e => hc (by rw [e]; exact hq)
  have RO : ∀ c, ro c ≠ 0 → va_up (va_up ro a (s + 2)) q 12 c = ro c := fun c hc => by rw [va_up_ne _ _ (Nq c hc), va_up_ne _ _ (Na c hc)]
  have I0 : ∀ c, ro c ≠ 0 → ol_nt (va_up I a (fun _ => 0)) a q (nI n) k v c = I c := fun c hc => by
    unfold ol_nt
    rw [ol_u2_a _ _ (Na c hc), ol_u2_a _ _ (Na c hc), ol_u2_a _ _ (Na c hc), ol_u2_a _ _ (Na c hc), ol_u2_a _ _ (Na c hc), va_up_ne _ _ (Nq c hc), va_up_ne _ _ (Na c hc)]
  have F0 : ∀ c, ro c ≠ 0 → ol_nf (va_up F a (fun _ => none)) a q c = F c := fun c hc => by
    unfold ol_nf
    rw [ol_u2_a _ _ (Na c hc), ol_u2_a _ _ (Na c hc), va_up_ne _ _ (Nq c hc), va_up_ne _ _ (Na c hc)]
  have U0 : ∀ r ∈ ol_uq, ro (ad r) ≠ 0 := fun r hr => by
    rw [hL.1 r hr]
    revert r
    decide
  have e1a : ad 1 ≠ a := Na _ (U0 1 (by decide))
  have e11a : ad 11 ≠ a := Na _ (U0 11 (by decide))
  have e11q : ad 11 ≠ q := Nq _ (U0 11 (by decide))
  have II : ∀ c, ro c ≠ 0 → c ≠ ad 1 → ol_u2 (ol_nt (va_up I a (fun _ => 0)) a q (nI n) k v) (ad 1) 1 (nI (n + 1)) c = I c := fun c hc h1 => by rw [ol_u2_a _ _ h1]; exact I0 c hc
  have I1 : ∀ j, j ≠ 1 → ol_u2 (ol_nt (va_up I a (fun _ => 0)) a q (nI n) k v) (ad 1) 1 (nI (n + 1)) (ad 1) j = I (ad 1) j := fun j hj => by rw [ol_u2_k _ _ hj, I0 _ (U0 1 (by decide))]
  have FF : ∀ c, ro c ≠ 0 → c ≠ ad 11 → ol_u2 (ol_nf (va_up F a (fun _ => none)) a q) (ad 11) n (some a) c = F c := fun c hc h1 => by rw [ol_u2_a _ _ h1]; exact F0 c hc
  have F11 : ∀ j, j ≠ n → ol_u2 (ol_nf (va_up F a (fun _ => none)) a q) (ad 11) n (some a) (ad 11) j = F (ad 11) j := fun j hj => by rw [ol_u2_k _ _ hj, F0 _ (U0 11 (by decide))]
  have UI : ∀ r ∈ ol_uq, r ≠ 1 → ol_u2 (ol_nt (va_up I a (fun _ => 0)) a q (nI n) k v) (ad 1) 1 (nI (n + 1)) (ad r) = I (ad r) := fun r hr h1 => II _ (U0 r hr) (hL.ne hr (by decide) h1)
  have UF : ∀ r ∈ ol_uq, r ≠ 11 → ol_u2 (ol_nf (va_up F a (fun _ => none)) a q) (ad 11) n (some a) (ad r) = F (ad r) := fun r hr h1 => FF _ (U0 r hr) (hL.ne hr (by decide) h1)
  have hgu : ∀ j, j ≤ 9 → g + j ∈ ol_uq ∧ g + j ≠ 1 ∧ g + j ≠ 11 := fun j hj => ⟨ol_gu hX.hg hj, by rcases ol_5060 hX.hg with rfl | rfl <;> omega, by rcases ol_5060 hX.hg with rfl | rfl <;> omega⟩
  have hhu : ∀ j, j ≤ 9 → h + j ∈ ol_uq ∧ h + j ≠ 1 := fun j hj => ⟨ol_gu hX.hh hj, by rcases ol_5060 hX.hh with rfl | rfl <;> omega⟩
  obtain ⟨a1, a2, a3, a4, a5, a6, a7, a8, a9, a10, a11⟩ := hX
  refine ⟨⟨a1, ⟨ol_u2_s _ _ _ _, fun t ht => ?_, fun t s2 ht hs2 e => ?_⟩, by rw [UF 1 (by decide) (by decide)]; exact a3, by rw [UF 1 (by decide) (by decide)]; exact a4, ?_, by rw [UI _ (hgu 4 (by decide)).1 (hgu 4 (by decide)).2.1]; exact a6, by rw [UI _ (hhu 4 (by decide)).1 (hhu 4 (by decide)).2]; exact a7, by rw [I1 4 (by decide)]; exact a8, by rw [I1 5 (by decide)]; exact a9, by rw [I1 6 (by decide)]; exact a10, by rw [I1 7 (by decide)]; exact a11⟩, ⟨fun r hr => by rw [RO _ (U0 r hr)]; exact hL.1 r hr, by rw [UF 1 (by decide) (by decide)]; exact hL.2.1, fun c hc j hj => ?_, fun z hz => by rw [UF 10 (by decide) (by decide)]; exact hL.2.2.2 z hz⟩, fun r hr => UI r (ol_uM_uq r hr) (by revert r; decide)⟩
  · by_cases e : t = n
    · subst e
      rw [va_up_self]
      refine ⟨ol_u2_s _ _ _ _, ?_⟩
      have qa : q ≠ a := Ne.symm haq
      have a1' : a ≠ ad 1 := Ne.symm e1a
      have a11' : a ≠ ad 11 := Ne.symm e11a
      have q11 : q ≠ ad 11 := Ne.symm e11q
      refine ⟨by rw [va_up_self, va_up_self, va_up_ne _ _ haq, va_up_self], ?_, ?_, ?_, ?_, ?_, ?_, by rw [va_up_self, va_up_self], ?_, fun i hi => ?_⟩
      · rw [va_up_self, ol_u2_a _ _ a1']
        unfold ol_nt
        rw [ol_u2_k _ _ (by decide), ol_u2_k _ _ (by decide), ol_u2_s]
      · rw [va_up_self, ol_u2_a _ _ a1', ol_tn_1]
        unfold ol_nt
        rw [ol_u2_k _ _ (by decide), ol_u2_s]
      · rw [va_up_self, ol_u2_a _ _ a1', ol_tn_2]
        unfold ol_nt
        rw [ol_u2_s]
      · rw [va_up_self, ol_u2_a _ _ a1', ol_tn_3]
        unfold ol_nt
        rw [ol_u2_k _ _ (by decide), ol_u2_k _ _ (by decide), ol_u2_k _ _ (by decide), ol_u2_k _ _ (by decide), ol_u2_s]
      · rw [va_up_self, ol_u2_a _ _ a1', ol_tn_4]
        unfold ol_nt
        rw [ol_u2_k _ _ (by decide), ol_u2_k _ _ (by decide), ol_u2_k _ _ (by decide), ol_u2_s]
      · rw [va_up_self, va_up_self, ol_u2_a _ _ a11']
        unfold ol_nf
        rw [ol_u2_k _ _ (by decide), ol_u2_s]
      · rw [va_up_self, ol_u2_a _ _ a11', ol_pn_n]
        unfold ol_nf
        rw [ol_u2_s]
        rfl
      · rw [va_up_self, ol_u2_a _ _ q11, ol_pn_n]
        unfold ol_nf
        rw [ol_u2_a _ _ qa, ol_u2_a _ _ qa, va_up_self]
        rfl
    · have htn : t < n := by omega
      obtain ⟨h1, c1, c2, c3, c4, c5, c6, c7, c8, c9, c10⟩ := a2.2.1 t htn
      have hv := (hV.2 t htn).2.2
      have rt : ro (ta t) ≠ 0 := by rw [c1]; omega
      have rp : ro (pa t) ≠ 0 := by rw [c8]; decide
      have t1 : ta t ≠ ad 1 := a2.nta hL hV htn (by decide)
      have t11 : ta t ≠ ad 11 := a2.nta hL hV htn (by decide)
      have p11 : pa t ≠ ad 11 := a2.npa hL htn (by decide)
      have M : ∀ j, j < 7 → (P j t).map (va_up ta n a) = (P j t).map ta := fun j hj => ol_map_cg (fun u hu => va_up_ne _ _ (by have := hv j hj u hu; omega))
      unfold ol_xt
      rw [va_up_ne ta _ e, va_up_ne pa _ e, va_up_ne So _ e, F11 t e, RO _ rt, RO _ rp, II _ rt t1, FF _ rt t11, FF _ rp p11, ol_tn_o 1 e, ol_tn_o 2 e, ol_tn_o 3 e, ol_tn_o 4 e, ol_pn_o 0 e, M 0 (by decide)]
      refine ⟨h1, c1, c2, c3, c4, c5, c6, c7, c8, c9, fun i hi => ?_⟩
      rw [ol_pn_o (1 + i) e, M (1 + i) (by omega)]
      exact c10 i hi
  · by_cases e1 : t = n
    · subst e1
      by_cases e2 : s2 = t
      · exact e2
      · rw [va_up_self, va_up_ne _ _ e2] at e
        have := (a2.2.1 s2 (by omega)).2.2.2.2.2.2.2.2.1
        rw [e, hq] at this
        exact absurd this (by decide)
    · by_cases e2 : s2 = n
      · subst e2
        rw [va_up_self, va_up_ne _ _ e1] at e
        have := (a2.2.1 t (by omega)).2.2.2.2.2.2.2.2.1
        rw [← e, hq] at this
        exact absurd this (by decide)
      · rw [va_up_ne _ _ e1, va_up_ne _ _ e2] at e
        exact a2.2.2 t s2 (by omega) (by omega) e
  · rw [UF _ (hgu 1 (by decide)).1 (hgu 1 (by decide)).2.2]
    refine ol_XG.cg7 (f := ol_vx I ad g) (fun j hj => UI _ (hgu j (by omega)).1 (hgu j (by omega)).2.1) ?_
    obtain ⟨x1, x2, x3, x4, x5, x6, x7, x8⟩ := a5
    refine ⟨x1, x2, x3, fun k hk => ?_, x5, x6, x7, x8⟩
    rw [va_up_ne _ _ (by have := hW.2.1 k hk; omega)]
    exact x4 k hk
  · rcases ol_5060 hc with rfl | rfl
    · rw [UF 50 (by decide) (by decide)]
      exact hL.2.2.1 50 hc j hj
    · rw [UF 60 (by decide) (by decide)]
      exact hL.2.2.1 60 hc j hj
theorem ol_MR.thing (hM : ol_MR I ad n So T P w b ra rb rc fl) (hL : ol_L ro F ad) {s : Nat} {k v : Int32} (hm : ol_mth I I' ad n (nI s) k v) : ol_MR I' ad (n + 1) (va_up So n s) (ol_tn T n k v) (ol_pn P n) w b ra rb rc fl ∧ ol_mo ad I I' := by
  obtain ⟨m10, m22, m23, m24, m25, m27, m28, m26, m26', mf⟩ := hm
  have E : ∀ r ∈ [31, 32, 33, 34, 35, 36, 37, 38, 39, 40], I' (ad r) = I (ad r) := fun r hr => by
    have h3 : r ∈ ol_uq ∧ r ≠ 10 ∧ r ≠ 22 ∧ r ≠ 23 ∧ r ≠ 24 ∧ r ≠ 25 ∧ r ≠ 26 ∧ r ≠ 27 ∧ r ≠ 28 := by
      revert r
      decide
    obtain ⟨hu, d1, d2, d3, d4, d5, d6, d7, d8⟩ := h3
    exact mf _ (hL.ne hu (by decide) d1) (hL.ne hu (by decide) d2) (hL.ne hu (by decide) d3) (hL.ne hu (by decide) d4) (hL.ne hu (by decide) d5) (hL.ne hu (by decide) d6) (hL.ne hu (by decide) d7) (hL.ne hu (by decide) d8)
  refine ⟨?_, fun a ha => mf a (ha 10 (by decide)) (ha 22 (by decide)) (ha 23 (by decide)) (ha 24 (by decide)) (ha 25 (by decide)) (ha 26 (by decide)) (ha 27 (by decide)) (ha 28 (by decide))⟩
  obtain ⟨a1, a2, a3, a4, a5, a6, a7, a8⟩ := hM
  refine ⟨⟨by rw [m10, va_up_self], fun t ht => ?_⟩, by rw [m10, va_up_ne _ _ (by decide)]; exact a2, a3, by rw [E 31 (by decide)]; exact a4, fun h0 => (a5 h0).congr E, by rw [m10, va_up_ne _ _ (by decide)]; exact a6, by rw [m10, va_up_ne _ _ (by decide)]; exact a7, by rw [m10, va_up_ne _ _ (by decide), va_up_ne _ _ (by decide)]; exact a8⟩
  rw [m22, m23, m24, m25, m27, m28]
  by_cases e : t = n
  · subst e
    rw [va_up_self, va_up_self, va_up_self, va_up_self, va_up_self, va_up_self, va_up_self, ol_tn_1, ol_tn_2, ol_tn_3, ol_tn_4, ol_pn_n]
    refine ⟨rfl, rfl, rfl, rfl, rfl, rfl, fun i hi => ?_⟩
    rw [ol_pn_n]
    exact m26 i hi
  · obtain ⟨c1, c2, c3, c4, c5, c6, c7⟩ := a1.2 t (by omega)
    rw [va_up_ne _ _ e, va_up_ne _ _ e, va_up_ne _ _ e, va_up_ne _ _ e, va_up_ne _ _ e, va_up_ne _ _ e, va_up_ne _ _ e, ol_tn_o 1 e, ol_tn_o 2 e, ol_tn_o 3 e, ol_tn_o 4 e, ol_pn_o 0 e]
    refine ⟨c1, c2, c3, c4, c5, c6, fun i hi => ?_⟩
    rw [ol_pn_o (1 + i) e, m26' _ (by omega)]
    exact c7 i hi
end OLRN
