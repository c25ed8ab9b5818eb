/-! the class's call, then the reference's: the methods that only read -/
theorem ol_two {l : Launch} {D : va_G} {cA : Nat → ClassId} {ro : Nat → Nat} {I : Nat → Nat → Int32} {F : Nat → Nat → Option Nat} {ad : Nat → Nat} (hS : ol_ST ro I F ad) {yx ym : MethodName} {cx cm : ByteArray} {nx nm : Nat} {rx rm : Room} {ax am : List Value} {z z' : Int32} (hx : ol_M l D cA yx cx nx (some .int) rx ax ro I F (ol_ei z ro I F)) (hm : ∀ (l : Launch) (D : va_G) (cA : Nat → ClassId), ol_M l D cA ym cm nm (some .int) rm am ro I F (ol_ei z' ro I F)) (e : z' = z) : ol_M l D cA yx cx nx (some .int) rx ax ro I F (ol_po ad ym cm nm rm am) := by
  subst e
  have hi : ol_is ro (ad 10) (.inl 9) := by
    obtain ⟨ta, pa, n, So, T, P, g, h, w, b, ra, rb, rc, fl, hL, -⟩ := hS
    exact hL.is 10 (by decide) (by decide) rfl
  refine hx.mono ?_
  rintro r ro' I' F' ⟨rfl, rfl, rfl, rfl⟩
  refine ⟨_, rfl, hi, fun l D cA => (hm l D cA).mono ?_⟩
  rintro r ro' I' F' ⟨rfl, rfl, rfl, rfl⟩
  exact ⟨rfl, hS⟩
set_option maxRecDepth 100000 in
set_option maxHeartbeats 4000000 in
theorem mm_arc0 (l : Launch) (D : va_G) (cA : Nat → ClassId) {ro : Nat → Nat} {I : Nat → Nat → Int32} {F : Nat → Nat → Option Nat} {ad : Nat → Nat} (hL : ol_L ro F ad) {w nn : Nat} (hw : I (ad 10) 12 = nI w) (hw2 : w < 2) (hnn : I (ad 31) w = nI nn) (h40 : nn ≤ 40) (h0 : nn = 0) (t k v : Int32) : ol_M l D cA yX11_arc cX11_arc 5 (some FieldType.int) (ol_r 3 0 0) [.ref (ad 10), .int t, .int k, .int v] ro I F (ol_ei (-1000001) ro I F) := by
  refine ol_M.of (by decide +kernel) (Nat.le_of_ble_eq_true rfl) (by simp [Value.category, ol_rfc]) ?_
  intro p e s m args below meth c C hret hlk hin
  have hm : ol_is ro (ad 10) (.inl 9) := hL.is 10 (by decide) (by decide) rfl
  refine ol_aload_n C dX11_arc_0 rfl rfl (by first | exact ol_isq_r _ | exact ol_isq_q _ | exact ol_isq_n) ?_
  refine ol_iload_n C dX11_arc_1 rfl rfl ?_
  refine ol_callV C (mm_isNode l D cA hL hw hw2 hnn h40 t) hm.1 hm.2 rfl wd_766 wd_4 wd_763 wd_765 wq_22 mh_X11_isNode (by decide) rfl (by first | exact Nat.le_of_ble_eq_true rfl | simp [ol_rfc, Value.category]) dX11_arc_2 (ol_xi ?_)
  refine ol_if_eq (tgt := 23) C dX11_arc_5 (by decide) (fun c_5 => ?_) (fun c_5 => ?_)
  · refine ol_ldc (v := (-1000001)) C wd_686 dX11_arc_23 ?_
    exact ol_iret C hret hlk rfl (by decide) (by decide) dX11_arc_25 ⟨rfl, rfl, rfl, rfl⟩
  · exact absurd h0 (ol_k_0 h40 (ol_p_n.mp c_5))

set_option maxHeartbeats 4000000 in
theorem lw_refused (l : Launch) (D : va_G) (cA : Nat → ClassId) {ro : Nat → Nat} {I : Nat → Nat → Int32} {F : Nat → Nat → Option Nat} {ad : Nat → Nat} (hS : ol_ST ro I F ad) (t : Int32) : ol_M l D cA yX10_refused cX10_refused 2 (some .int) (ol_r 0 0 0) [.ref (ad 1), .int t] ro I F (ol_po ad yX11_refused cX11_refused 2 (ol_r 1 0 0) [.ref (ad 10), .int t]) := by
  have hS0 := hS
  obtain ⟨ta, pa, n, So, T, P, g, h, w, b, ra, rb, rc, fl, hL, hV, hW, hX, hM⟩ := hS
  have h40 := hV.1
  refine ol_two hS0 (x_refused l D cA hL t) (fun l D cA => mm_refused l D cA hL t) ?_
  obtain ⟨-, -, -, -, -, -, -, x4, x5, x6, x7⟩ := hX
  obtain ⟨-, -, -, -, -, m23, m26, m24⟩ := hM
  rw [x4, x5, x6, m26]
  by_cases h0 : rc = 0
  · rw [ol_if_t h0, ol_if_t h0]
  · rw [(m24 h0).1, (m24 h0).2]
set_option maxHeartbeats 4000000 in
theorem lw_node (l : Launch) (D : va_G) (cA : Nat → ClassId) {ro : Nat → Nat} {I : Nat → Nat → Int32} {F : Nat → Nat → Option Nat} {ad : Nat → Nat} (hS : ol_ST ro I F ad) (t : Int32) : ol_M l D cA yX10_node cX10_node 2 (some .int) (ol_r 1 0 0) [.ref (ad 1), .int t] ro I F (ol_po ad yX11_node cX11_node 2 (ol_r 2 0 0) [.ref (ad 10), .int t]) := by
  have hS0 := hS
  obtain ⟨ta, pa, n, So, T, P, g, h, w, b, ra, rb, rc, fl, hL, hV, hW, hX, hM⟩ := hS
  have h40 := hV.1
  refine ol_two hS0 (x_node l D cA hV hL hX.xt hX.hg hX.2.2.1 hW hX.2.2.2.2.1 t) (fun l D cA => mm_node l D cA hL hM.1.1 h40 hM.2.1 hM.2.2.1 hM.2.2.2.1 hW.1 t) ?_
  by_cases hK : ol_k n t
  · obtain ⟨j, hj, rfl, hj31⟩ := ol_k_ix hK h40
    rw [ol_if_t hK, ol_if_t hK, nI_clamp hj31]
    by_cases h0 : b.2.1 0 0 = 0
    · rw [ol_if_t (Or.inl h0), (hW.z1 h0).2.2 j]
      rfl
    · have h33 : I (ad 33) (40 * w + j) = ol_o (b.2.2.2 j) := (hM.2.2.2.2.1 h0).2.2.2.2.1 j (by omega)
      rw [h33]
      cases ho : b.2.2.2 j with
      | none =>
        rw [ol_if_t (Or.inr (by decide))]
        rfl
      | some k =>
        have hk := hW.2.2.1 j k ho
        have h4 := hW.1
        rw [ol_if_f (fun q => q.elim h0 (nI_pos (show k < 2 ^ 31 by omega)))]
        rfl
  · rw [ol_if_f hK, ol_if_f hK]
set_option maxHeartbeats 4000000 in
theorem lw_of (l : Launch) (D : va_G) (cA : Nat → ClassId) {ro : Nat → Nat} {I : Nat → Nat → Int32} {F : Nat → Nat → Option Nat} {ad : Nat → Nat} (hS : ol_ST ro I F ad) (t : Int32) : ol_M l D cA yX10_of cX10_of 2 (some .int) (ol_r 1 0 0) [.ref (ad 1), .int t] ro I F (ol_po ad yX11_of cX11_of 2 (ol_r 2 0 0) [.ref (ad 10), .int t]) := by
  have hS0 := hS
  obtain ⟨ta, pa, n, So, T, P, g, h, w, b, ra, rb, rc, fl, hL, hV, hW, hX, hM⟩ := hS
  have h40 := hV.1
  refine ol_two hS0 (x_of l D cA hV hL hX.xt hX.hg hX.2.2.1 hW hX.2.2.2.2.1 t) (fun l D cA => mm_of l D cA hL hM.2.1 hM.2.2.1 hM.2.2.2.1 hW.1 t) ?_
  by_cases hK : ol_k (b.2.1 0 0) t
  · obtain ⟨j, hj, rfl, hj31⟩ := ol_k_ix hK hW.1
    rw [ol_if_t hK, ol_if_t hK, nI_clamp hj31]
    have hG := hM.2.2.2.2.1 (by omega)
    exact hG.2.2.2.1 j hj
  · rw [ol_if_f hK, ol_if_f hK]
set_option maxHeartbeats 4000000 in
theorem lw_column (l : Launch) (D : va_G) (cA : Nat → ClassId) {ro : Nat → Nat} {I : Nat → Nat → Int32} {F : Nat → Nat → Option Nat} {ad : Nat → Nat} (hS : ol_ST ro I F ad) (t : Int32) : ol_M l D cA yX10_column cX10_column 2 (some .int) (ol_r 1 0 0) [.ref (ad 1), .int t] ro I F (ol_po ad yX11_column cX11_column 2 (ol_r 2 0 0) [.ref (ad 10), .int t]) := by
  have hS0 := hS
  obtain ⟨ta, pa, n, So, T, P, g, h, w, b, ra, rb, rc, fl, hL, hV, hW, hX, hM⟩ := hS
  have h40 := hV.1
  refine ol_two hS0 (x_column l D cA hV hL hX.xt hX.hg hX.2.2.1 hW hX.2.2.2.2.1 t) (fun l D cA => mm_column l D cA hL hM.2.1 hM.2.2.1 hM.2.2.2.1 hW.1 t) ?_
  by_cases hK : ol_k (b.2.1 0 0) t
  · obtain ⟨j, hj, rfl, hj31⟩ := ol_k_ix hK hW.1
    rw [ol_if_t hK, ol_if_t hK, nI_clamp hj31]
    have hG := hM.2.2.2.2.1 (by omega)
    exact hG.2.2.2.2.2.1 j hj
  · rw [ol_if_f hK, ol_if_f hK]
set_option maxHeartbeats 4000000 in
theorem lw_arcs (l : Launch) (D : va_G) (cA : Nat → ClassId) {ro : Nat → Nat} {I : Nat → Nat → Int32} {F : Nat → Nat → Option Nat} {ad : Nat → Nat} (hS : ol_ST ro I F ad) (t : Int32) : ol_M l D cA yX10_arcs cX10_arcs 2 (some .int) (ol_r 1 0 0) [.ref (ad 1), .int t] ro I F (ol_po ad yX11_arcs cX11_arcs 2 (ol_r 2 0 0) [.ref (ad 10), .int t]) := by
  have hS0 := hS
  obtain ⟨ta, pa, n, So, T, P, g, h, w, b, ra, rb, rc, fl, hL, hV, hW, hX, hM⟩ := hS
  have h40 := hV.1
  refine ol_two hS0 (x_arcs l D cA hV hL hX.xt hX.hg hX.2.2.1 hW hX.2.2.2.2.1 t) (fun l D cA => mm_arcs l D cA hL hM.2.1 hM.2.2.1 hM.2.2.2.1 hW.1 t) ?_
  by_cases hK : ol_k (b.2.1 0 0) t
  · obtain ⟨j, hj, rfl, hj31⟩ := ol_k_ix hK hW.1
    rw [ol_if_t hK, ol_if_t hK, nI_clamp hj31]
    have hG := hM.2.2.2.2.1 (by omega)
    have e1 : I (ad 35) (41 * w + j) = nI (b.2.1 2 j) := hG.2.2.2.2.2.2.1 j (by omega)
    have e2 : I (ad 35) (41 * w + j + 1) = nI (b.2.1 2 (j + 1)) := hG.2.2.2.2.2.2.1 (j + 1) (by omega)
    rw [e1, e2]
    exact pk_sub (hW.2.2.2.2.2.2.1 j hj)
  · rw [ol_if_f hK, ol_if_f hK]
set_option maxHeartbeats 4000000 in
theorem lw_holes (l : Launch) (D : va_G) (cA : Nat → ClassId) {ro : Nat → Nat} {I : Nat → Nat → Int32} {F : Nat → Nat → Option Nat} {ad : Nat → Nat} (hS : ol_ST ro I F ad)  : ol_M l D cA yX10_holes cX10_holes 1 (some .int) (ol_r 0 0 0) [.ref (ad 1)] ro I F (ol_po ad yX11_holes cX11_holes 1 (ol_r 0 0 0) [.ref (ad 10)]) := by
  have hS0 := hS
  obtain ⟨ta, pa, n, So, T, P, g, h, w, b, ra, rb, rc, fl, hL, hV, hW, hX, hM⟩ := hS
  have h40 := hV.1
  refine ol_two hS0 (x_holes l D cA hV hL hX.xt hX.hg hX.2.2.1 hW hX.2.2.2.2.1) (fun l D cA => mm_holes l D cA hL hM.2.1 hM.2.2.1 hM.2.2.2.1 hW.1) ?_
  by_cases h0 : b.2.1 0 0 = 0
  · rw [ol_if_t h0, (hW.z1 h0).2.1]
    rfl
  · rw [ol_if_f h0]
    exact (hM.2.2.2.2.1 h0).2.2.1
set_option maxHeartbeats 4000000 in
theorem lw_count (l : Launch) (D : va_G) (cA : Nat → ClassId) {ro : Nat → Nat} {I : Nat → Nat → Int32} {F : Nat → Nat → Option Nat} {ad : Nat → Nat} (hS : ol_ST ro I F ad) (t : Int32) : ol_M l D cA yX10_count cX10_count 2 (some .int) (ol_r 0 0 0) [.ref (ad 1), .int t] ro I F (ol_po ad yX11_count cX11_count 2 (ol_r 0 0 0) [.ref (ad 10), .int t]) := by
  have hS0 := hS
  obtain ⟨ta, pa, n, So, T, P, g, h, w, b, ra, rb, rc, fl, hL, hV, hW, hX, hM⟩ := hS
  have h40 := hV.1
  refine ol_two hS0 (x_count l D cA hV hL hX.xt hX.hg hX.2.2.1 hW hX.2.2.2.2.1 t) (fun l D cA => mm_count l D cA hL hM.2.1 hM.2.2.1 hM.2.2.2.1 hW.1 t) ?_
  have e2 : ol_if (b.2.1 0 0 = 0) 0 (I (ad 36) w) = nI (b.2.1 0 1) := by
    by_cases h0 : b.2.1 0 0 = 0
    · rw [ol_if_t h0, (hW.z1 h0).1]
      rfl
    · rw [ol_if_f h0]
      exact (hM.2.2.2.2.1 h0).2.1
  have e3 : I (ad 10) 23 = I (ad 1) 7 := hM.2.2.2.2.2.1.trans hX.2.2.2.2.2.2.2.2.2.2.symm
  rw [e2, e3, hM.1.1]
set_option maxHeartbeats 4000000 in
theorem lw_asked (l : Launch) (D : va_G) (cA : Nat → ClassId) {ro : Nat → Nat} {I : Nat → Nat → Int32} {F : Nat → Nat → Option Nat} {ad : Nat → Nat} (hS : ol_ST ro I F ad) (t : Int32) : ol_M l D cA yX10_asked cX10_asked 3 (some .int) (ol_r 2 0 0) [.ref (ad 1), .int t] ro I F (ol_po ad yX11_asked cX11_asked 2 (ol_r 2 0 0) [.ref (ad 10), .int t]) := by
  have hS0 := hS
  obtain ⟨ta, pa, n, So, T, P, g, h, w, b, ra, rb, rc, fl, hL, hV, hW, hX, hM⟩ := hS
  have h40 := hV.1
  refine ol_two hS0 (x_asked l D cA hV hL hX.xt t) (fun l D cA => mm_asked l D cA hL hM.1.1 h40 t) ?_
  by_cases hK : ol_k n t
  · obtain ⟨j, hj, rfl, hj31⟩ := ol_k_ix hK h40
    rw [ol_if_t hK, ol_if_t hK, nI_clamp hj31]
    exact (hM.1.2 j hj).2.2.2.2.1
  · rw [ol_if_f hK, ol_if_f hK]
set_option maxHeartbeats 4000000 in
theorem lw_is (l : Launch) (D : va_G) (cA : Nat → ClassId) {ro : Nat → Nat} {I : Nat → Nat → Int32} {F : Nat → Nat → Option Nat} {ad : Nat → Nat} (hS : ol_ST ro I F ad) (t f : Int32) : ol_M l D cA yX10_is cX10_is 4 (some .int) (ol_r 2 0 0) [.ref (ad 1), .int t, .int f] ro I F (ol_po ad yX11_is cX11_is 5 (ol_r 2 0 0) [.ref (ad 10), .int t, .int f]) := by
  have hS0 := hS
  obtain ⟨ta, pa, n, So, T, P, g, h, w, b, ra, rb, rc, fl, hL, hV, hW, hX, hM⟩ := hS
  have h40 := hV.1
  exact ol_two hS0 (x_is l D cA hV hL hX.xt t f) (fun l D cA => mm_is l D cA hL hM.1 hV t f) rfl
set_option maxHeartbeats 4000000 in
theorem lw_arc (l : Launch) (D : va_G) (cA : Nat → ClassId) {ro : Nat → Nat} {I : Nat → Nat → Int32} {F : Nat → Nat → Option Nat} {ad : Nat → Nat} (hS : ol_ST ro I F ad) (t k v : Int32) : ol_M l D cA yX10_arc cX10_arc 5 (some .int) (ol_r 1 0 0) [.ref (ad 1), .int t, .int k, .int v] ro I F (ol_po ad yX11_arc cX11_arc 5 (ol_r 3 0 0) [.ref (ad 10), .int t, .int k, .int v]) := by
  have hS0 := hS
  obtain ⟨ta, pa, n, So, T, P, g, h, w, b, ra, rb, rc, fl, hL, hV, hW, hX, hM⟩ := hS
  have h40 := hV.1
  by_cases h0 : b.2.1 0 0 = 0
  · refine ol_two hS0 (x_arc l D cA hV hL hX.xt hX.hg hX.2.2.1 hW hX.2.2.2.2.1 t k v) (fun l D cA => mm_arc0 l D cA hL hM.2.1 hM.2.2.1 hM.2.2.2.1 hW.1 h0 t k v) ?_
    unfold sp_ac
    rw [ol_if_f (fun q => ol_k_0 hW.1 q.1 h0)]
  · have hG := hM.2.2.2.2.1 h0
    have hle : ∀ d j, j + d = b.2.1 0 0 → b.2.1 2 j ≤ b.2.1 0 1 := by
      intro d
      induction d with
      | zero =>
        intro j hj
        have e : j = b.2.1 0 0 := by omega
        rw [e, hW.2.2.2.2.2.2.2.1]
        exact Nat.le_refl _
      | succ d ih => exact fun j hj => Nat.le_trans (hW.2.2.2.2.2.2.1 j (by omega)) (ih (j + 1) (by omega))
    have hle2 : ∀ j, j ≤ b.2.1 0 0 → b.2.1 2 j ≤ b.2.1 0 1 := fun j hj => hle (b.2.1 0 0 - j) j (by omega)
    have h240 := hW.2.2.2.1
    refine ol_two hS0 (x_arc l D cA hV hL hX.xt hX.hg hX.2.2.1 hW hX.2.2.2.2.1 t k v) (fun l D cA => mm_arc l D cA hL hM.2.1 hM.2.2.1 hM.2.2.2.1 hW.1 (fA := b.2.1 2) (fun j hj => hG.2.2.2.2.2.2.1 j (by omega)) hW.2.2.2.2.2.2.1 (fun j hj => Nat.le_trans (hle2 j hj) h240) t k v) ?_
    unfold sp_ac
    by_cases hC : ol_k (b.2.1 0 0) t ∧ ol_k (b.2.1 2 (t.toNatClampNeg + 1) - b.2.1 2 t.toNatClampNeg) k
    · rw [ol_if_t hC, ol_if_t hC]
      obtain ⟨j, hj, rfl, hj31⟩ := ol_k_ix hC.1 hW.1
      have hk := hC.2
      rw [nI_clamp hj31] at hk ⊢
      have l2 := hle2 (j + 1) (by omega)
      obtain ⟨r, hr, e1, -, e2, -⟩ := pk_mu hk.1 hk.2 (by omega)
      have er : k.toNatClampNeg = r := e2
      rw [er]
      obtain ⟨g1, g2, g3⟩ := hG.2.2.2.2.2.2.2 (b.2.1 2 j + r) (by omega)
      have g1' : I (ad 37) (240 * w + (b.2.1 2 j + r)) = nI (b.2.1 3 (b.2.1 2 j + r)) := g1
      have g2' : I (ad 38) (240 * w + (b.2.1 2 j + r)) = b.2.2.1 1 (b.2.1 2 j + r) := g2
      have g3' : I (ad 39) (240 * w + (b.2.1 2 j + r)) = b.2.2.1 2 (b.2.1 2 j + r) := g3
      rw [g1', g2', g3']
    · rw [ol_if_f hC, ol_if_f hC]
set_option maxHeartbeats 4000000 in
theorem lw_tells (l : Launch) (D : va_G) (cA : Nat → ClassId) {ro : Nat → Nat} {I : Nat → Nat → Int32} {F : Nat → Nat → Option Nat} {ad : Nat → Nat} (hS : ol_ST ro I F ad) (t v : Int32) : ol_M l D cA yX10_tells cX10_tells 4 (some .int) (ol_r 3 0 0) [.ref (ad 1), .int t, .int v] ro I F (ol_po ad yX11_tells cX11_tells 4 (ol_r 2 0 0) [.ref (ad 10), .int t, .int v]) := by
  obtain ⟨ta, pa, n, So, T, P, g, h, w, b, ra, rb, rc, fl, hL, hV, hW, hX, hM⟩ := hS
  have h40 := hV.1
  refine (x_tells l D cA hV hL hX.xt t v).mono ?_
  rintro r ro' I' F' ⟨rfl, rfl, rfl, rfl⟩
  refine ⟨_, rfl, hL.is 10 (by decide) (by decide) rfl, fun l D cA => (mm_tells l D cA hL hM.1 hV t v).mono ?_⟩
  rintro r ro' I' F' ⟨rfl, rfl, rfl, hs⟩
  exact ⟨rfl, ta, pa, n, So, T, P, g, h, w, b, ra, rb, rc, fl, hL, hV, hW, hX.mo hL hV hs.mo2, hM.sq hL hs⟩
set_option maxHeartbeats 4000000 in
theorem lw_clear (l : Launch) (D : va_G) (cA : Nat → ClassId) {ro : Nat → Nat} {I : Nat → Nat → Int32} {F : Nat → Nat → Option Nat} {ad : Nat → Nat} (hS : ol_ST ro I F ad)  : ol_M l D cA yX10_clear cX10_clear 2 (some .int) (ol_r 2 0 0) [.ref (ad 1)] ro I F (ol_po ad yX11_clear cX11_clear 2 (ol_r 1 0 0) [.ref (ad 10)]) := by
  obtain ⟨ta, pa, n, So, T, P, g, h, w, b, ra, rb, rc, fl, hL, hV, hW, hX, hM⟩ := hS
  have h40 := hV.1
  refine (x_clear l D cA hV hL hX.xt hX.hg hX.2.2.1).mono ?_
  rintro r ro' I' F' ⟨rfl, rfl, rfl, rfl⟩
  obtain ⟨hX2, mk⟩ := hX.clear hL
  have hM2 := hM.mk mk
  refine ⟨_, rfl, hL.is 10 (by decide) (by decide) rfl, fun l D cA => (mm_clear l D cA hL hM2.2.1 hM2.2.2.1).mono ?_⟩
  rintro r ro' I' F' ⟨rfl, rfl, rfl, rfl⟩
  obtain ⟨hM3, mo⟩ := hM2.clear hL (-1000009) (-1000009)
  have hV2 : ol_V 0 So T P := ⟨Nat.zero_le _, fun t ht => absurd ht (Nat.not_lt_zero t)⟩
  exact ⟨by rw [hM2.1.1], ta, pa, 0, So, T, P, g, h, w, sp_b0 T, -1000009, -1000009, 0, 0, hL, hV2, sp_b0_GW 0 T, hX2.mo hL hV2 mo, hM3⟩
set_option maxHeartbeats 4000000 in
theorem lw_way (l : Launch) (D : va_G) (cA : Nat → ClassId) {ro : Nat → Nat} {I : Nat → Nat → Int32} {F : Nat → Nat → Option Nat} {ad : Nat → Nat} (hS : ol_ST ro I F ad) (t u : Int32) : ol_M l D cA yX10_way cX10_way 3 (some .int) (ol_r 2 0 0) [.ref (ad 1), .int t, .int u] ro I F (ol_po ad yX11_way cX11_way 7 (ol_r 2 0 0) [.ref (ad 10), .int t, .int u]) := by
  obtain ⟨ta, pa, n, So, T, P, g, h, w, b, ra, rb, rc, fl, hL, hV, hW, hX, hM⟩ := hS
  have h40 := hV.1
  refine (x_way l D cA hV hL hX.xt hX.hg hX.2.2.1 hW hX.2.2.2.2.1 t u).mono ?_
  rintro r ro' I' F' ⟨rfl, rfl, hf, z, rfl, hz⟩
  have N : ∀ r ∈ ol_uq, r ≠ g + 8 → r ≠ g + 9 → I' (ad r) = I (ad r) := fun r hr h8 h9 => hf _ (hL.ne hr (ol_gu hX.hg (by decide)) h8) (hL.ne hr (ol_gu hX.hg (by decide)) h9)
  have U : ∀ r ∈ ol_uM, r ≠ g + 8 ∧ r ≠ g + 9 := by
    rcases hX.1 with ⟨rfl, -⟩ | ⟨rfl, -⟩ <;> decide
  have mk : ol_mk ad I I' := fun r hr => N r (ol_uM_uq r hr) (U r hr).1 (U r hr).2
  have e1 : I' (ad 1) = I (ad 1) := N 1 (by decide) (by rcases hX.1 with ⟨rfl, -⟩ | ⟨rfl, -⟩ <;> decide) (by rcases hX.1 with ⟨rfl, -⟩ | ⟨rfl, -⟩ <;> decide)
  have hX2 : ol_XR ro' I' F' ad ta pa n So T P g h b ra rb rc fl := by
    refine hX.cg (hX.xt.cg (by rw [e1]) (fun t ht => hf _ (hX.xt.nta hL hV ht (ol_gu hX.hg (by decide))) (hX.xt.nta hL hV ht (ol_gu hX.hg (by decide)))) rfl (fun t ht => ⟨rfl, rfl⟩)) e1 (fun j hj => N _ (ol_gu hX.hg (by omega)) (by omega) (by omega)) (N _ (ol_gu hX.hh (by decide)) (Ne.symm (hX.gh (by decide) (by decide))) (Ne.symm (hX.gh (by decide) (by decide)))) rfl rfl
  have hM2 := hM.mk mk
  refine ⟨_, rfl, hL.is 10 (by decide) (by decide) rfl, fun l D cA => (mm_way l D cA hL hW hM2.2.1 hM2.2.2.1 hM2.2.2.2.1 hM2.2.2.2.2.1 t u).mono ?_⟩
  rintro r ro'' I'' F'' ⟨rfl, rfl, hf2, z2, rfl, hz2⟩
  have mo : ol_mo ad I' I'' := fun a ha => hf2 a (ha 42 (by decide))
  have hM3 : ol_MR I'' ad n So T P w b ra rb rc fl := by
    have E : ∀ r ∈ ol_uq, r ≠ 42 → I'' (ad r) = I' (ad r) := fun r hr h42 => hf2 _ (hL.ne hr (by decide) h42)
    refine hM2.cg ?_ (fun k _ _ _ => by rw [E 10 (by decide) (by decide)]) (fun r hr => E r (by revert r; decide) (by revert r; decide))
    have a1 := hM2.1
    unfold ol_MT at a1 ⊢
    rw [E 10 (by decide) (by decide), E 22 (by decide) (by decide), E 23 (by decide) (by decide), E 24 (by decide) (by decide), E 25 (by decide) (by decide), E 26 (by decide) (by decide), E 27 (by decide) (by decide), E 28 (by decide) (by decide)]
    exact a1
  exact ⟨by rw [sp_wy_uq hW hz2 hz], ta, pa, n, So, T, P, g, h, w, b, ra, rb, rc, fl, hL, hV, hW, hX2.mo hL hV mo, hM3⟩