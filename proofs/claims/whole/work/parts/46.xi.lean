/-! WHILE THE CLASS LOADS its graph g: I0, F0 the memory at the beginning -/
theorem ol_uq_th {r : Nat} (hr : r ∈ ol_uq) : r < 2 ∨ 8 < r := by
  revert r
  decide
theorem ol_uq_12 {r : Nat} (hr : r ∈ ol_uq) : r ≠ 12 := by
  revert r
  decide
def ol_xf (ad ta : Nat → Nat) (g n : Nat) (I0 : Nat → Nat → Int32) (F0 : Nat → Nat → Option Nat) (I : Nat → Nat → Int32) (F : Nat → Nat → Option Nat) : Prop :=
  (∀ a k, (∀ j, j ≤ 9 → a ≠ ad (g + j)) → ¬ (k = 6 ∧ ∃ u, u < n ∧ a = ta u) → I a k = I0 a k) ∧ ∀ a, a ≠ ad (g + 1) → F a = F0 a
def ol_XI (ro : Nat → Nat) (ad ta pa : Nat → Nat) (g n : Nat) (So : Nat → Nat) (T : Nat → Nat → Int32) (P : Nat → Nat → Option Nat) (I0 : Nat → Nat → Int32) (F0 : Nat → Nat → Option Nat) (I : Nat → Nat → Int32) (F : Nat → Nat → Option Nat) (b : ol_B) (kc kf : Nat) : Prop :=
  ol_L ro F ad ∧ F (ad 1) 3 = some (ad g) ∧ ol_XT ro I F ad ta pa n So (va_up T 4 b.1) P ∧ ol_XG (ol_vx I ad g) (F (ad (g + 1))) ta b kc kf ∧ I (ad (g + 4)) 0 = 0 ∧ ol_xf ad ta g n I0 F0 I F
section OLXI
variable {ro : Nat → Nat} {I I' : Nat → Nat → Int32} {F F' : Nat → Nat → Option Nat} {ad ta pa : Nat → Nat} {g n : Nat} {So : Nat → Nat} {T : Nat → Nat → Int32} {P : Nat → Nat → Option Nat} {I0 : Nat → Nat → Int32} {F0 : Nat → Nat → Option Nat} {b : ol_B} {kc kf : Nat}
theorem ol_XT.nta (h : ol_XT ro I F ad ta pa n So T P) (hL : ol_L ro F ad) (hV : ol_V n So T P) {t r : Nat} (ht : t < n) (hr : r ∈ ol_uq) : ta t ≠ ad r := by
  intro e
  have h1 := (h.2.1 t ht).2.1
  have h2 := (hV.2 t ht).1
  rw [e, hL.1 r hr] at h1
  have := ol_uq_th hr
  omega
theorem ol_XT.npa (h : ol_XT ro I F ad ta pa n So T P) (hL : ol_L ro F ad) {t r : Nat} (ht : t < n) (hr : r ∈ ol_uq) : pa t ≠ ad r := by
  intro e
  have h1 := (h.2.1 t ht).2.2.2.2.2.2.2.2.1
  rw [e, hL.1 r hr] at h1
  exact ol_uq_12 hr h1
theorem ol_XT.cg (h : ol_XT ro I F ad ta pa n So T P) (h1 : I' (ad 1) 1 = I (ad 1) 1) (h2 : ∀ t, t < n → I' (ta t) = I (ta t)) (h3 : F' (ad 11) = F (ad 11)) (h4 : ∀ t, t < n → F' (ta t) = F (ta t) ∧ F' (pa t) = F (pa t)) : ol_XT ro I' F' ad ta pa n So T P := by
  refine ⟨h1.trans h.1, fun t ht => ?_, h.2.2⟩
  obtain ⟨a, c⟩ := h.2.1 t ht
  refine ⟨by rw [h3]; exact a, ?_⟩
  unfold ol_xt at c ⊢
  rw [h2 t ht, (h4 t ht).1, (h4 t ht).2]
  exact c
theorem ol_V.up4 (hV : ol_V n So T P) (x : Nat → Int32) : ol_V n So (va_up T 4 x) P := by
  refine ⟨hV.1, fun t ht => ?_⟩
  rw [va_up_ne T x (show 3 ≠ 4 by decide)]
  exact hV.2 t ht
theorem ol_L.xf (hL : ol_L ro F ad) (hg : g ∈ [50, 60]) (hf : ∀ a, a ≠ ad (g + 1) → F' a = F a) : ol_L ro F' ad := by
  have N : ∀ {r : Nat}, r ∈ ol_uq → r ≠ g + 1 → F' (ad r) = F (ad r) := fun hr h => hf _ (hL.ne hr (ol_gu hg (by decide)) h)
  have g1 : g + 1 ≠ 1 ∧ g + 1 ≠ 10 ∧ g + 1 ≠ 50 ∧ g + 1 ≠ 60 := by
    rcases ol_5060 hg with rfl | rfl <;> decide
  refine ⟨hL.1, by rw [N (by decide) (Ne.symm g1.1)]; exact hL.2.1, fun c hc j hj => ?_, fun q hq => by rw [N (by decide) (Ne.symm g1.2.1)]; exact hL.2.2.2 q hq⟩
  rcases ol_5060 hc with rfl | rfl
  · rw [N (by decide) (Ne.symm g1.2.2.1)]
    exact hL.2.2.1 50 hc j hj
  · rw [N (by decide) (Ne.symm g1.2.2.2)]
    exact hL.2.2.1 60 hc j hj
/-- a place of the graph's own rows is written -/
theorem ol_xf.up (h : ol_xf ad ta g n I0 F0 I F) {j : Nat} (hj : j ≤ 9) (k : Nat) (v : Int32) : ol_xf ad ta g n I0 F0 (ol_u2 I (ad (g + j)) k v) F := by
  refine ⟨fun a k2 h1 h2 => ?_, h.2⟩
  rw [ol_u2_a I v (h1 j hj)]
  exact h.1 a k2 h1 h2
theorem ol_xf.upt (h : ol_xf ad ta g n I0 F0 I F) {u : Nat} (hu : u < n) (v : Int32) : ol_xf ad ta g n I0 F0 (ol_u2 I (ta u) 6 v) F := by
  refine ⟨fun a k2 h1 h2 => ?_, h.2⟩
  by_cases e : a = ta u
  · subst e
    rw [ol_u2_k I v (fun q => h2 ⟨q, u, hu, rfl⟩)]
    exact h.1 _ k2 h1 h2
  · rw [ol_u2_a I v e]
    exact h.1 a k2 h1 h2
theorem ol_xf.upf (h : ol_xf ad ta g n I0 F0 I F) (k : Nat) (v : Option Nat) : ol_xf ad ta g n I0 F0 I (ol_u2 F (ad (g + 1)) k v) := by
  refine ⟨h.1, fun a ha => ?_⟩
  rw [ol_u2_a F v ha]
  exact h.2 a ha
/-- the things stay when a row of the graph is written -/
theorem ol_XT.off (h : ol_XT ro I F ad ta pa n So T P) (hL : ol_L ro F ad) (hV : ol_V n So T P) (hg : g ∈ [50, 60]) {j : Nat} (hj : j ≤ 9) (k : Nat) (v : Int32) : ol_XT ro (ol_u2 I (ad (g + j)) k v) F ad ta pa n So T P := by
  have hu := ol_gu hg hj
  have h1 : g + j ≠ 1 := by rcases ol_5060 hg with rfl | rfl <;> omega
  exact h.cg (by rw [ol_u2_a I v (hL.ne (by decide) hu (Ne.symm h1))]) (fun t ht => ol_u2_a I v (h.nta hL hV ht hu)) rfl (fun t ht => ⟨rfl, rfl⟩)
theorem ol_XT.offf (h : ol_XT ro I F ad ta pa n So T P) (hL : ol_L ro F ad) (hV : ol_V n So T P) (hg : g ∈ [50, 60]) (k : Nat) (v : Option Nat) : ol_XT ro I (ol_u2 F (ad (g + 1)) k v) ad ta pa n So T P := by
  have hu := ol_gu (j := 1) hg (by decide)
  have h1 : g + 1 ≠ 11 := by rcases ol_5060 hg with rfl | rfl <;> omega
  exact h.cg rfl (fun t ht => rfl) (by rw [ol_u2_a F v (hL.ne (by decide) hu (Ne.symm h1))]) (fun t ht => ⟨ol_u2_a F v (h.nta hL hV ht hu), ol_u2_a F v (h.npa hL ht hu)⟩)
/-- one more asking -/
theorem ol_XT.ask (h : ol_XT ro I F ad ta pa n So (va_up T 4 b.1) P) (hL : ol_L ro F ad) (hV : ol_V n So T P) {u : Nat} (hu : u < n) : ol_XT ro (ol_u2 I (ta u) 6 (b.1 u + 1)) F ad ta pa n So (va_up T 4 (sp_ask b u).1) P := by
  refine ⟨?_, fun t ht => ⟨(h.2.1 t ht).1, ?_⟩, h.2.2⟩
  · rw [ol_u2_a I _ (Ne.symm (h.nta hL (hV.up4 b.1) hu (r := 1) (by decide)))]
    exact h.1
  obtain ⟨c1, c2, c3, c4, c5, c6, c7, c8, c9, c10⟩ := (h.2.1 t ht).2
  have K : ∀ k, k ≠ 6 → ol_u2 I (ta u) 6 (b.1 u + 1) (ta t) k = I (ta t) k := by
    intro k hk
    by_cases e : ta t = ta u
    · rw [e, ol_u2_k I _ hk]
    · rw [ol_u2_a I _ e]
  refine ⟨c1, by rw [K 0 (by decide)]; exact c2, by rw [K 2 (by decide)]; exact c3, by rw [K 3 (by decide)]; exact c4, by rw [K 5 (by decide)]; exact c5, ?_, c7, c8, c9, c10⟩
  rw [va_up_self] at c6 ⊢
  show _ = va_up b.1 u (b.1 u + 1) t
  by_cases e : t = u
  · subst e
    rw [ol_u2_s, va_up_self]
  · rw [va_up_ne _ _ e, ol_u2_a I _ (fun q => e (h.inj hV.1 ht hu q))]
    exact c6
theorem ol_XI.hL (h : ol_XI ro ad ta pa g n So T P I0 F0 I F b kc kf) : ol_L ro F ad := h.1
theorem ol_XI.ask (h : ol_XI ro ad ta pa g n So T P I0 F0 I F b kc kf) (hV : ol_V n So T P) (hg : g ∈ [50, 60]) {u : Nat} (hu : u < n) : ol_XI ro ad ta pa g n So T P I0 F0 (ol_u2 I (ta u) 6 (b.1 u + 1)) F (sp_ask b u) kc kf := by
  obtain ⟨hL, hb, hT, hG, h0, hf⟩ := h
  have N : ∀ j, j ≤ 9 → ad (g + j) ≠ ta u := fun j hj => Ne.symm (hT.nta hL (hV.up4 b.1) hu (ol_gu hg hj))
  refine ⟨hL, hb, hT.ask hL hV hu, ?_, by rw [ol_u2_a I _ (N 4 (by decide))]; exact h0, hf.upt hu _⟩
  have := hG.congr (f' := ol_vx (ol_u2 I (ta u) 6 (b.1 u + 1)) ad g) (fun j hj => ol_u2_a I _ (N j hj))
  exact this
theorem ol_XI.asked (h : ol_XI ro ad ta pa g n So T P I0 F0 I F b kc kf) {u : Nat} (hu : u < n) : I (ta u) 6 = b.1 u := by
  have := (h.2.2.1.2.1 u hu).2.2.2.2.2.2.1
  rw [va_up_self] at this
  exact this
theorem ol_XI.hole (h : ol_XI ro ad ta pa g n So T P I0 F0 I F b kc kf) (hV : ol_V n So T P) (hg : g ∈ [50, 60]) : ol_XI ro ad ta pa g n So T P I0 F0 (ol_u2 I (ad g) 11 (nI (b.2.1 0 2 + 1))) F (sp_hole b) kc kf := by
  obtain ⟨hL, hb, hT, hG, h0, hf⟩ := h
  refine ⟨hL, hb, hT.off (j := 0) hL (hV.up4 b.1) hg (by decide) 11 _, ?_, ?_, hf.up (j := 0) (by decide) 11 _⟩
  · exact hG.hole.congr (fun j hj => ol_vxu (j0 := 0) hL hg I 11 _ (by decide) hj)
  · rw [ol_u2_a I _ (show ad (g + 4) ≠ ad g from hL.ne (ol_gu hg (by decide)) (ol_gu (j := 0) hg (by decide)) (by omega))]
    exact h0
theorem ol_u2_cg9 {f f' : Nat → Nat → Int32} (h : ∀ j, j ≤ 9 → f' j = f j) (a k : Nat) (v : Int32) : ∀ j, j ≤ 9 → ol_u2 f' a k v j = ol_u2 f a k v j := by
  intro j hj
  by_cases e : j = a
  · subst e
    rw [ol_u2_r, ol_u2_r, h j hj]
  · rw [ol_u2_a _ _ e, ol_u2_a _ _ e, h j hj]
theorem ol_XI.findN (h : ol_XI ro ad ta pa g n So T P I0 F0 I F b kc kf) (hV : ol_V n So T P) (hg : g ∈ [50, 60]) {u : Nat} (ho : b.2.2.2 u = none) : ol_XI ro ad ta pa g n So T P I0 F0 (ol_u2 (ol_u2 I (ad (g + 2)) u (nI (b.2.1 0 0))) (ad g) 9 (nI (b.2.1 0 0 + 1))) (ol_u2 F (ad (g + 1)) (b.2.1 0 0) (some (ta u))) (sp_find b u) kc kf := by
  obtain ⟨hL, hb, hT, hG, h0, hf⟩ := h
  have e1 : (sp_find b u).1 = b.1 := (sp_find_1 b u).1
  have hL2 : ol_L ro (ol_u2 F (ad (g + 1)) (b.2.1 0 0) (some (ta u))) ad := hL.xf hg (fun a ha => ol_u2_a F _ ha)
  have hT2 := (((hT.off (j := 2) hL (hV.up4 b.1) hg (by decide) u (nI (b.2.1 0 0))).off (j := 0) hL (hV.up4 b.1) hg (by decide) 9 (nI (b.2.1 0 0 + 1)))).offf hL (hV.up4 b.1) hg (b.2.1 0 0) (some (ta u))
  have d1 : ad 1 ≠ ad (g + 1) := hL.ne (by decide) (ol_gu hg (by decide)) (by rcases ol_5060 hg with rfl | rfl <;> decide)
  have N : ∀ {i j : Nat}, i ≤ 9 → j ≤ 9 → i ≠ j → ad (g + i) ≠ ad (g + j) := fun hi hj h => hL.ne (ol_gu hg hi) (ol_gu hg hj) (by omega)
  refine ⟨hL2, by rw [ol_u2_a F _ d1]; exact hb, by rw [e1]; exact hT2, ?_, ?_, ((hf.up (j := 2) (by decide) u _).up (j := 0) (by decide) 9 _).upf _ _⟩
  · have hG2 := (hG.findN ho).1
    rw [ol_u2_r]
    refine hG2.congr (fun j hj => ?_)
    refine Eq.trans (ol_vxu (j0 := 0) hL hg _ 9 _ (by decide) hj) ?_
    exact ol_u2_cg9 (fun j hj => ol_vxu (j0 := 2) hL hg I u _ (by decide) hj) 0 9 _ j hj
  · rw [ol_u2_a _ _ (show ad (g + 4) ≠ ad g from N (i := 4) (j := 0) (by decide) (by decide) (by decide)), ol_u2_a _ _ (N (i := 4) (j := 2) (by decide) (by decide) (by decide))]
    exact h0
theorem ol_XI.arc {u : Nat} (w br : Int32) (h : ol_XI ro ad ta pa g n So T P I0 F0 I F (sp_find b u) kc kf) (hV : ol_V n So T P) (hg : g ∈ [50, 60]) : ol_XI ro ad ta pa g n So T P I0 F0 (ol_u2 (ol_u2 (ol_u2 (ol_u2 I (ad (g + 5)) (b.2.1 0 1) (nI (sp_no b u))) (ad (g + 6)) (b.2.1 0 1) w) (ad (g + 7)) (b.2.1 0 1) br) (ad g) 10 (nI (b.2.1 0 1 + 1))) F (sp_arc b u w br) kc kf := by
  obtain ⟨hL, hb, hT, hG, h0, hf⟩ := h
  have hV4 := hV.up4 (sp_find b u).1
  have N : ∀ {i j : Nat}, i ≤ 9 → j ≤ 9 → i ≠ j → ad (g + i) ≠ ad (g + j) := fun hi hj h => hL.ne (ol_gu hg hi) (ol_gu hg hj) (by omega)
  refine ⟨hL, hb, (((hT.off (j := 5) hL hV4 hg (by decide) _ _).off (j := 6) hL hV4 hg (by decide) _ _).off (j := 7) hL hV4 hg (by decide) _ _).off (j := 0) hL hV4 hg (by decide) _ _, ?_, ?_, (((hf.up (j := 5) (by decide) _ _).up (j := 6) (by decide) _ _).up (j := 7) (by decide) _ _).up (j := 0) (by decide) _ _⟩
  · refine (hG.arc w br).congr (fun j hj => ?_)
    refine Eq.trans (ol_vxu (j0 := 0) hL hg _ _ _ (by decide) hj) ?_
    refine ol_u2_cg9 (fun j hj => ?_) 0 10 _ j hj
    rw [ol_vxu (j0 := 7) hL hg _ _ _ (by decide) hj]
    refine ol_u2_cg9 (fun j hj => ?_) 7 _ _ j hj
    rw [ol_vxu (j0 := 6) hL hg _ _ _ (by decide) hj]
    refine ol_u2_cg9 (fun j hj => ?_) 6 _ _ j hj
    exact ol_vxu (j0 := 5) hL hg I _ _ (by decide) hj
  · rw [ol_u2_a _ _ (show ad (g + 4) ≠ ad g from N (i := 4) (j := 0) (by decide) (by decide) (by decide)), ol_u2_a _ _ (N (i := 4) (j := 7) (by decide) (by decide) (by decide)), ol_u2_a _ _ (N (i := 4) (j := 6) (by decide) (by decide) (by decide)), ol_u2_a _ _ (N (i := 4) (j := 5) (by decide) (by decide) (by decide))]
    exact h0
theorem ol_XI.col (h : ol_XI ro ad ta pa g n So T P I0 F0 I F b kc kf) (hV : ol_V n So T P) (hg : g ∈ [50, 60]) (x : Int32) : ol_XI ro ad ta pa g n So T P I0 F0 (ol_u2 I (ad (g + 3)) kc x) F (b.1, b.2.1, ol_u2 b.2.2.1 0 kc x, b.2.2.2) (kc + 1) kf := by
  obtain ⟨hL, hb, hT, hG, h0, hf⟩ := h
  refine ⟨hL, hb, hT.off (j := 3) hL (hV.up4 b.1) hg (by decide) kc _, ?_, ?_, hf.up (j := 3) (by decide) kc _⟩
  · exact (hG.col x).congr (fun j hj => ol_vxu (j0 := 3) hL hg I kc _ (by decide) hj)
  · rw [ol_u2_a I _ (hL.ne (ol_gu hg (by decide)) (ol_gu (j := 3) hg (by decide)) (by omega))]
    exact h0
theorem ol_XI.fa (h : ol_XI ro ad ta pa g n So T P I0 F0 I F b kc kf) (hV : ol_V n So T P) (hg : g ∈ [50, 60]) (hk : 0 < kf) : ol_XI ro ad ta pa g n So T P I0 F0 (ol_u2 I (ad (g + 4)) kf (nI (b.2.1 0 1))) F (b.1, ol_u2 b.2.1 2 kf (b.2.1 0 1), b.2.2) kc (kf + 1) := by
  obtain ⟨hL, hb, hT, hG, h0, hf⟩ := h
  refine ⟨hL, hb, hT.off (j := 4) hL (hV.up4 b.1) hg (by decide) kf _, ?_, ?_, hf.up (j := 4) (by decide) kf _⟩
  · exact hG.fa.congr (fun j hj => ol_vxu (j0 := 4) hL hg I kf _ (by decide) hj)
  · rw [ol_u2_k I _ (by omega)]
    exact h0
end OLXI
