theorem ol_M.mono {l : Launch} {D : va_G} {cA : Nat → ClassId} {y : MethodName} {b : ByteArray} {n : Nat} {ret : Option FieldType} {rm : Room} {av : List Value} {ro : Nat → Nat} {I : Nat → Nat → Int32} {F : Nat → Nat → Option Nat} {post post' : Option Value → (Nat → Nat) → (Nat → Nat → Int32) → (Nat → Nat → Option Nat) → Prop} (h : ol_M l D cA y b n ret rm av ro I F post) (hp : ∀ v ro' I' F', post v ro' I' F' → post' v ro' I' F') : ol_M l D cA y b n ret rm av ro I F post' := by
  intro sz p e h1 h2 h3 s m args below h4 h5 h6 h7
  obtain ⟨k, o, g1, g2, g3, ⟨⟨v, ro', I', F', q1, q2, q3⟩, q4⟩, g5⟩ := h sz p e h1 h2 h3 s m args below h4 h5 h6 h7
  exact ⟨k, o, g1, g2, g3, ⟨⟨v, ro', I', F', q1, hp v ro' I' F' q2, q3⟩, q4⟩, g5⟩
/-- while slot g is being loaded: I0 the memory at the beginning -/
def ol_LI (ad : Nat → Nat) (g n : Nat) (So : Nat → Nat) (T : Nat → Nat → Int32) (P : Nat → Nat → Option Nat) (I0 I : Nat → Nat → Int32) (b : ol_B) (kc kf : Nat) : Prop := ol_MT I ad n So (va_up T 4 b.1) P ∧ ol_MG (ol_vf I ad) g b kc kf ∧ ol_fm ad g I0 I
theorem ol_LI.off41 {ro : Nat → Nat} {F : Nat → Nat → Option Nat} {ad : Nat → Nat} {g n : Nat} {So : Nat → Nat} {T : Nat → Nat → Int32} {P : Nat → Nat → Option Nat} {I0 I : Nat → Nat → Int32} {b : ol_B} {kc kf : Nat} (hL : ol_L ro F ad) (h : ol_LI ad g n So T P I0 I b kc kf) (k : Nat) (v : Int32) : ol_LI ad g n So T P I0 (ol_u2 I (ad 41) k v) b kc kf := by
  refine ⟨ol_MT.off hL h.1 _ _ (by decide) (by decide), ol_MG.vu hL (by decide) (h.2.1.congr (fun r hr => ?_)), h.2.2.up _ (Or.inl (Or.inr rfl))⟩
  have h2 : r ≠ 41 := by
    revert r
    decide
  exact ol_u2_a _ _ h2
section OLLI
variable {ro : Nat → Nat} {F : Nat → Nat → Option Nat} {ad : Nat → Nat} {g n : Nat} {So : Nat → Nat} {T : Nat → Nat → Int32} {P : Nat → Nat → Option Nat} {I0 I : Nat → Nat → Int32} {b : ol_B} {kc kf : Nat}
theorem ol_LI.sq {I' : Nat → Nat → Int32} (hL : ol_L ro F ad) (h : ol_LI ad g n So T P I0 I b kc kf) (hs : ol_sq ad I I') : ol_LI ad g n So T P I0 I' b kc kf := by
  refine ⟨ol_MT.sq hL hs h.1, h.2.1.congr (fun r hr => funext fun k => ?_), h.2.2.sq hs⟩
  have h2 : r ∈ ol_uq ∧ r ≠ 10 ∧ r ≠ 29 ∧ r ≠ 30 := by
    revert r
    decide
  exact hs.row hL r k h2.1 h2.2.1 h2.2.2.1 h2.2.2.2
theorem ol_LI.ask (hL : ol_L ro F ad) (h : ol_LI ad g n So T P I0 I b kc kf) (u : Nat) : ol_LI ad g n So T P I0 (ol_u2 I (ad 28) u (b.1 u + 1)) (sp_ask b u) kc kf := by
  refine ⟨ol_MT.ask hL h.1 u, ol_MG.vu hL (by decide) ((h.2.1.congr (fun r hr => ?_)).ask u), h.2.2.up _ (ol_tg_asked ad g u)⟩
  have h2 : r ≠ 28 := by
    revert r
    decide
  exact ol_u2_a _ _ h2
theorem ol_LI.asked (h : ol_LI ad g n So T P I0 I b kc kf) {u : Nat} (hu : u < n) : I (ad 28) u = b.1 u := by
  have := (h.1.2 u hu).2.2.2.2.1
  rw [va_up_self] at this
  exact this
theorem ol_LI.hole (hL : ol_L ro F ad) (h : ol_LI ad g n So T P I0 I b kc kf) : ol_LI ad g n So T P I0 (ol_u2 I (ad 40) g (nI (b.2.1 0 2 + 1))) (sp_hole b) kc kf :=
  ⟨ol_MT.off hL h.1 _ _ (by decide) (by decide), ol_MG.vu hL (by decide) h.2.1.hole, h.2.2.up _ (ol_tg_holes ad g)⟩
theorem ol_LI.findN (hL : ol_L ro F ad) (h : ol_LI ad g n So T P I0 I b kc kf) {u : Nat} (hu : u < 40) (hk : b.2.1 0 0 < 40) (ho : b.2.2.2 u = none) : ol_LI ad g n So T P I0 (ol_u2 (ol_u2 (ol_u2 I (ad 33) (40 * g + u) (nI (b.2.1 0 0))) (ad 32) (40 * g + b.2.1 0 0) (nI u)) (ad 31) g (nI (b.2.1 0 0 + 1))) (sp_find b u) kc kf := by
  have e1 : (sp_find b u).1 = b.1 := by
    unfold sp_find
    rw [ho]
  refine ⟨by rw [e1]; exact ol_MT.off hL (ol_MT.off hL (ol_MT.off hL h.1 _ _ (by decide) (by decide)) _ _ (by decide) (by decide)) _ _ (by decide) (by decide), ?_, ((h.2.2.up _ (ol_tg_33 ad g hu)).up _ (ol_tg_32 ad g hk)).up _ (ol_tg_nodes ad g)⟩
  have R : ∀ r ∈ [31, 32, 33, 34, 35, 36, 37, 38, 39, 40], r ∈ ol_uq := by decide
  refine ol_MG.congr (fun r hr => ?_) (h.2.1.findN ho).1
  rw [ol_vu hL _ _ _ (by decide) (R r hr)]
  refine ol_u2_cg (R := [31, 32, 33, 34, 35, 36, 37, 38, 39, 40]) (fun r hr => ?_) _ _ _ r hr
  rw [ol_vu hL _ _ _ (by decide) (R r hr)]
  refine ol_u2_cg (R := [31, 32, 33, 34, 35, 36, 37, 38, 39, 40]) (fun r hr => ?_) _ _ _ r hr
  exact ol_vu hL _ _ _ (by decide) (R r hr)
theorem sp_find_1 (b : ol_B) (u : Nat) : (sp_find b u).1 = b.1 ∧ (sp_find b u).2.2.1 = b.2.2.1 ∧ (sp_find b u).2.1 0 1 = b.2.1 0 1 := by
  unfold sp_find
  cases b.2.2.2 u with
  | some k => exact ⟨rfl, rfl, rfl⟩
  | none => exact ⟨rfl, rfl, by show ol_u2 (ol_u2 b.2.1 1 (b.2.1 0 0) u) 0 0 (b.2.1 0 0 + 1) 0 1 = _; rw [ol_u2_k _ _ (by decide), ol_u2_a _ _ (by decide)]⟩
theorem ol_LI.arc (hL : ol_L ro F ad) {u : Nat} (w br : Int32) (h : ol_LI ad g n So T P I0 I (sp_find b u) kc kf) (ha : b.2.1 0 1 < 240) : ol_LI ad g n So T P I0 (ol_u2 (ol_u2 (ol_u2 (ol_u2 I (ad 37) (240 * g + b.2.1 0 1) (nI (sp_no b u))) (ad 38) (240 * g + b.2.1 0 1) w) (ad 39) (240 * g + b.2.1 0 1) br) (ad 36) g (nI (b.2.1 0 1 + 1))) (sp_arc b u w br) kc kf := by
  obtain ⟨f1, f2, f3⟩ := sp_find_1 b u
  refine ⟨ol_MT.off hL (ol_MT.off hL (ol_MT.off hL (ol_MT.off hL h.1 _ _ (by decide) (by decide)) _ _ (by decide) (by decide)) _ _ (by decide) (by decide)) _ _ (by decide) (by decide), ?_, (((h.2.2.up _ (ol_tg_37 g (Or.inl rfl) ha)).up _ (ol_tg_37 g (Or.inr (Or.inl rfl)) ha)).up _ (ol_tg_37 g (Or.inr (Or.inr rfl)) ha)).up _ (ol_tg_arcs ad g)⟩
  have R : ∀ r ∈ [31, 32, 33, 34, 35, 36, 37, 38, 39, 40], r ∈ ol_uq := by decide
  refine ol_MG.congr (fun r hr => ?_) (h.2.1.arc w br f3 f2)
  rw [ol_vu hL _ _ _ (by decide) (R r hr)]
  refine ol_u2_cg (R := [31, 32, 33, 34, 35, 36, 37, 38, 39, 40]) (fun r hr => ?_) _ _ _ r hr
  rw [ol_vu hL _ _ _ (by decide) (R r hr)]
  refine ol_u2_cg (R := [31, 32, 33, 34, 35, 36, 37, 38, 39, 40]) (fun r hr => ?_) _ _ _ r hr
  rw [ol_vu hL _ _ _ (by decide) (R r hr)]
  refine ol_u2_cg (R := [31, 32, 33, 34, 35, 36, 37, 38, 39, 40]) (fun r hr => ?_) _ _ _ r hr
  exact ol_vu hL _ _ _ (by decide) (R r hr)
end OLLI
/-- found(), while slot g is being loaded -/
theorem mm_fnd (l : Launch) (D : va_G) (cA : Nat → ClassId) {ro : Nat → Nat} {I : Nat → Nat → Int32} {F : Nat → Nat → Option Nat} {ad : Nat → Nat} (hL : ol_L ro F ad) {g n : Nat} {So : Nat → Nat} {T : Nat → Nat → Int32} {P : Nat → Nat → Option Nat} {I0 : Nat → Nat → Int32} {b : ol_B} {kc kf M u : Nat} (hg : g < 2) (h40 : n ≤ 40) (h : ol_LI ad g n So T P I0 I b kc kf) (hB : ol_BW n So b M) (hu : u < n) :
    ol_M l D cA yX11_found cX11_found 3 (some .int) (ol_r 0 0 0) [.ref (ad 10), .int (nI g), .int (nI u)] ro I F (fun v ro' I' F' => v = some (.int (nI (sp_no b u))) ∧ ro' = ro ∧ F' = F ∧ ol_LI ad g n So T P I0 I' (sp_find b u) kc kf ∧ I' (ad 10) = I (ad 10) ∧ I' (ad 30) = I (ad 30) ∧ I' (ad 41) = I (ad 41)) := by
  have e5 := h.2.1.2.2.2.2.1 u (by omega)
  cases ho : b.2.2.2 u with
  | some k =>
    rw [ho] at e5
    have hk : k < 40 := by
      have := (hB.2.2.1 u k ho).2.1
      have := hB.le
      omega
    refine (mm_found_old l D cA hL (g := g) (t := u) (k := 0) hg (by omega) (by show ¬ ol_vf I ad 33 (40 * g + u) < 0; rw [e5]; exact nI_pos (by omega))).mono ?_
    rintro v ro' I' F' ⟨rfl, rfl, rfl, rfl⟩
    have en : sp_no b u = k := (h.2.1.findO ho).2
    have eb : sp_find b u = b := by
      unfold sp_find
      rw [ho]
    refine ⟨?_, rfl, rfl, by rw [eb]; exact h, rfl, rfl, rfl⟩
    rw [en]
    show some (Value.int (ol_vf I' ad 33 (40 * g + u))) = _
    rw [e5]
    rfl
  | none =>
    rw [ho] at e5
    have hk : b.2.1 0 0 < 40 := by
      have := hB.lt hu ho
      omega
    refine (mm_found_new l D cA hL (g := g) (t := u) (k := b.2.1 0 0) hg (by omega) (by show ol_vf I ad 33 (40 * g + u) < 0; rw [e5]; decide) h.2.1.1 hk).mono ?_
    rintro v ro' I' F' ⟨rfl, rfl, rfl, rfl⟩
    have en : sp_no b u = b.2.1 0 0 := (h.2.1.findN ho).2
    refine ⟨by rw [en], rfl, rfl, h.findN hL (by omega) hk ho, ?_, ?_, ?_⟩
    · rw [ol_u2_a _ _ (hL.ne (by decide) (by decide) (by decide)), ol_u2_a _ _ (hL.ne (by decide) (by decide) (by decide)), ol_u2_a _ _ (hL.ne (by decide) (by decide) (by decide))]
    · rw [ol_u2_a _ _ (hL.ne (by decide) (by decide) (by decide)), ol_u2_a _ _ (hL.ne (by decide) (by decide) (by decide)), ol_u2_a _ _ (hL.ne (by decide) (by decide) (by decide))]
    · rw [ol_u2_a _ _ (hL.ne (by decide) (by decide) (by decide)), ol_u2_a _ _ (hL.ne (by decide) (by decide) (by decide)), ol_u2_a _ _ (hL.ne (by decide) (by decide) (by decide))]
