/-! the class's call, then the reference's: one answer -/
def ol_pq (ad : Nat → Nat) (z : Int32) : Option Value → (Nat → Nat) → (Nat → Nat → Int32) → (Nat → Nat → Option Nat) → Prop := fun r ro' I' F' => r = some (.int z) ∧ ol_ST ro' I' F' ad
def ol_po (ad : Nat → Nat) (y : MethodName) (c : ByteArray) (n : Nat) (rm : Room) (args : List Value) : Option Value → (Nat → Nat) → (Nat → Nat → Int32) → (Nat → Nat → Option Nat) → Prop := fun r ro' I' F' => ∃ z, r = some (.int z) ∧ ol_is ro' (ad 10) (.inl 9) ∧ ∀ (l : Launch) (D : va_G) (cA : Nat → ClassId), ol_M l D cA y c n (some .int) rm args ro' I' F' (ol_pq ad z)
theorem ol_d_e {n : Nat} {u : Int32} (h40 : n ≤ 40) (h : u = -1000009 ∨ ol_k n u) : ol_e (ol_d n u) = u := by
  rcases h with rfl | h
  · rw [ol_d_f (fun q => q.1 (by decide))]
    rfl
  · obtain ⟨j, hj, rfl, hj31⟩ := ol_k_ix h h40
    rw [ol_d_j h hj31]
    rfl
theorem ol_GW.z1 {n : Nat} {b : ol_B} (hW : ol_GW n b) (h0 : b.2.1 0 0 = 0) : b.2.1 0 1 = 0 ∧ b.2.1 0 2 = 0 ∧ ∀ t, b.2.2.2 t = none := by
  refine ⟨?_, hW.2.2.2.2.2.2.2.2 h0, fun t => ?_⟩
  · have h1 := hW.2.2.2.2.2.2.2.1
    have h2 := hW.2.2.2.2.2.1
    rw [h0, h2] at h1
    exact h1.symm
  · cases ho : b.2.2.2 t with
    | none => rfl
    | some k =>
      have := hW.2.2.1 t k ho
      omega
theorem ol_k_0 {t : Int32} {n : Nat} (hn : n ≤ 40) (h : ol_k n t) : n ≠ 0 := by
  obtain ⟨j, hj, -, -⟩ := ol_k_ix h hn
  omega

set_option maxHeartbeats 4000000 in
theorem lw_value (l : Launch) (D : va_G) (cA : Nat → ClassId) {ro : Nat → Nat} {I : Nat → Nat → Int32} {F : Nat → Nat → Option Nat} {ad : Nat → Nat} (hS : ol_ST ro I F ad) (t v : Int32) : ol_M l D cA yX10_value cX10_value 5 (some .int) (ol_r 2 0 0) [.ref (ad 1), .int t, .int v] ro I F (ol_po ad yX11_value cX11_value 4 (ol_r 2 0 0) [.ref (ad 10), .int t, .int v]) := by
  obtain ⟨ta, pa, n, So, T, P, g, h, w, b, ra, rb, rc, fl, hL, hV, hW, hX, hM⟩ := hS
  have h40 := hV.1
  refine (x_value l D cA hV hL hX.xt t v).mono ?_
  rintro r ro' I' F' ⟨rfl, rfl, rfl, rfl⟩
  by_cases hK : ol_k n t
  · obtain ⟨j, hj, rfl, hj31⟩ := ol_k_ix hK h40
    rw [ol_if_t hK, ol_if_t hK, nI_clamp hj31]
    obtain ⟨hX2, mk⟩ := hX.setT hL hV hj 3 2 (by decide) v
    have hM2 := hM.mk mk
    refine ⟨_, rfl, hL.is 10 (by decide) (by decide) rfl, fun l D cA => (mm_value l D cA hL hM2.1.1 h40 (nI j) v).mono ?_⟩
    rintro r ro' I' F' ⟨rfl, rfl, rfl, rfl⟩
    rw [ol_if_t hK, ol_if_t hK, nI_clamp hj31]
    have hV2 := hV.setT (i := 2) (j := j) v (Or.inl (by decide))
    exact ⟨by rw [hM2.1.2 j hj |>.2.2.1], ta, pa, n, So, _, P, g, h, w, b, ra, rb, rc, fl, hL, hV2, hW, hX2.mo hL hV2 ((ol_mo_rf ad _).up j v (by decide)), hM2.setT hL 24 2 (by decide) v⟩
  · rw [ol_if_f hK, ol_if_f hK]
    refine ⟨_, rfl, hL.is 10 (by decide) (by decide) rfl, fun l D cA => (mm_value l D cA hL hM.1.1 h40 t v).mono ?_⟩
    rintro r ro' I' F' ⟨rfl, rfl, rfl, rfl⟩
    rw [ol_if_f hK, ol_if_f hK]
    exact ⟨rfl, ta, pa, n, So, T, P, g, h, w, b, ra, rb, rc, fl, hL, hV, hW, hX, hM⟩
set_option maxHeartbeats 4000000 in
theorem lw_key (l : Launch) (D : va_G) (cA : Nat → ClassId) {ro : Nat → Nat} {I : Nat → Nat → Int32} {F : Nat → Nat → Option Nat} {ad : Nat → Nat} (hS : ol_ST ro I F ad) (t v : Int32) : ol_M l D cA yX10_key cX10_key 5 (some .int) (ol_r 2 0 0) [.ref (ad 1), .int t, .int v] ro I F (ol_po ad yX11_key cX11_key 4 (ol_r 2 0 0) [.ref (ad 10), .int t, .int v]) := by
  obtain ⟨ta, pa, n, So, T, P, g, h, w, b, ra, rb, rc, fl, hL, hV, hW, hX, hM⟩ := hS
  have h40 := hV.1
  refine (x_key l D cA hV hL hX.xt t v).mono ?_
  rintro r ro' I' F' ⟨rfl, rfl, rfl, rfl⟩
  by_cases hK : ol_k n t
  · obtain ⟨j, hj, rfl, hj31⟩ := ol_k_ix hK h40
    rw [ol_if_t hK, ol_if_t hK, nI_clamp hj31]
    obtain ⟨hX2, mk⟩ := hX.setT hL hV hj 2 1 (by decide) v
    have hM2 := hM.mk mk
    refine ⟨_, rfl, hL.is 10 (by decide) (by decide) rfl, fun l D cA => (mm_key l D cA hL hM2.1.1 h40 (nI j) v).mono ?_⟩
    rintro r ro' I' F' ⟨rfl, rfl, rfl, rfl⟩
    rw [ol_if_t hK, ol_if_t hK, nI_clamp hj31]
    have hV2 := hV.setT (i := 1) (j := j) v (Or.inl (by decide))
    exact ⟨by rw [hM2.1.2 j hj |>.2.1], ta, pa, n, So, _, P, g, h, w, b, ra, rb, rc, fl, hL, hV2, hW, hX2.mo hL hV2 ((ol_mo_rf ad _).up j v (by decide)), hM2.setT hL 23 1 (by decide) v⟩
  · rw [ol_if_f hK, ol_if_f hK]
    refine ⟨_, rfl, hL.is 10 (by decide) (by decide) rfl, fun l D cA => (mm_key l D cA hL hM.1.1 h40 t v).mono ?_⟩
    rintro r ro' I' F' ⟨rfl, rfl, rfl, rfl⟩
    rw [ol_if_f hK, ol_if_f hK]
    exact ⟨rfl, ta, pa, n, So, T, P, g, h, w, b, ra, rb, rc, fl, hL, hV, hW, hX, hM⟩
set_option maxHeartbeats 4000000 in
theorem lw_hold (l : Launch) (D : va_G) (cA : Nat → ClassId) {ro : Nat → Nat} {I : Nat → Nat → Int32} {F : Nat → Nat → Option Nat} {ad : Nat → Nat} (hS : ol_ST ro I F ad) (t v : Int32) (hv : v = 0 ∨ v = 1) : ol_M l D cA yX10_hold cX10_hold 5 (some .int) (ol_r 2 0 0) [.ref (ad 1), .int t, .int v] ro I F (ol_po ad yX11_hold cX11_hold 4 (ol_r 2 0 0) [.ref (ad 10), .int t, .int v]) := by
  obtain ⟨ta, pa, n, So, T, P, g, h, w, b, ra, rb, rc, fl, hL, hV, hW, hX, hM⟩ := hS
  have h40 := hV.1
  have hb : vp_nar .boolean v = v := by rcases hv with rfl | rfl <;> rfl
  refine (x_hold l D cA hV hL hX.xt t v hv).mono ?_
  rintro r ro' I' F' ⟨rfl, rfl, rfl, rfl⟩
  by_cases hK : ol_k n t
  · obtain ⟨j, hj, rfl, hj31⟩ := ol_k_ix hK h40
    rw [ol_if_t hK, ol_if_t hK, nI_clamp hj31]
    obtain ⟨hX2, mk⟩ := hX.setT hL hV hj 5 3 (by decide) v
    have hM2 := hM.mk mk
    refine ⟨_, rfl, hL.is 10 (by decide) (by decide) rfl, fun l D cA => (mm_hold l D cA hL hM2.1.1 h40 (nI j) v hb).mono ?_⟩
    rintro r ro' I' F' ⟨rfl, rfl, rfl, rfl⟩
    rw [ol_if_t hK, ol_if_t hK, nI_clamp hj31]
    have hV2 := hV.setT (i := 3) (j := j) v (Or.inr hv)
    exact ⟨by rw [(hM2.1.2 j hj).2.2.2.1], ta, pa, n, So, _, P, g, h, w, b, ra, rb, rc, fl, hL, hV2, hW, hX2.mo hL hV2 ((ol_mo_rf ad _).up j v (by decide)), hM2.setT hL 27 3 (by decide) v⟩
  · rw [ol_if_f hK, ol_if_f hK]
    refine ⟨_, rfl, hL.is 10 (by decide) (by decide) rfl, fun l D cA => (mm_hold l D cA hL hM.1.1 h40 t v hb).mono ?_⟩
    rintro r ro' I' F' ⟨rfl, rfl, rfl, rfl⟩
    rw [ol_if_f hK, ol_if_f hK]
    exact ⟨rfl, ta, pa, n, So, T, P, g, h, w, b, ra, rb, rc, fl, hL, hV, hW, hX, hM⟩
set_option maxHeartbeats 4000000 in
theorem lw_next (l : Launch) (D : va_G) (cA : Nat → ClassId) {ro : Nat → Nat} {I : Nat → Nat → Int32} {F : Nat → Nat → Option Nat} {ad : Nat → Nat} (hS : ol_ST ro I F ad) (t u : Int32) : ol_M l D cA yX10_next cX10_next 4 (some .int) (ol_r 2 0 0) [.ref (ad 1), .int t, .int u] ro I F (ol_po ad yX11_next cX11_next 3 (ol_r 2 0 0) [.ref (ad 10), .int t, .int u]) := by
  obtain ⟨ta, pa, n, So, T, P, g, h, w, b, ra, rb, rc, fl, hL, hV, hW, hX, hM⟩ := hS
  have h40 := hV.1
  refine (x_next l D cA hV hL hX.xt t u).mono ?_
  rintro r ro' I' F' ⟨rfl, rfl, rfl, rfl⟩
  by_cases hC : ol_k n t ∧ (u = -1000009 ∨ ol_k n u)
  · have hK := hC.1
    have eu := ol_d_e h40 hC.2
    obtain ⟨j, hj, rfl, hj31⟩ := ol_k_ix hK h40
    rw [ol_if_t hC, ol_if_t hC, nI_clamp hj31]
    obtain ⟨hX2, hL2⟩ := hX.next hL hV hj (ol_d n u)
    refine ⟨_, rfl, hL.is 10 (by decide) (by decide) rfl, fun l D cA => (mm_next l D cA hL2 hM.1.1 h40 (nI j) u).mono ?_⟩
    rintro r ro' I' F' ⟨rfl, rfl, rfl, rfl⟩
    rw [ol_if_t hC, ol_if_t hC, nI_clamp hj31]
    have hV2 := hV.up1 (i := 0) (j := j) (ol_d_lt (t := u) h40)
    have hM2 := hM.next hL2 j (ol_d n u)
    rw [eu] at hM2
    exact ⟨rfl, ta, pa, n, So, T, _, g, h, w, b, ra, rb, rc, fl, hL2, hV2, hW, hX2.mo hL2 hV2 ((ol_mo_rf ad _).up j u (by decide)), hM2⟩
  · rw [ol_if_f hC, ol_if_f hC]
    refine ⟨_, rfl, hL.is 10 (by decide) (by decide) rfl, fun l D cA => (mm_next l D cA hL hM.1.1 h40 t u).mono ?_⟩
    rintro r ro' I' F' ⟨rfl, rfl, rfl, rfl⟩
    rw [ol_if_f hC, ol_if_f hC]
    exact ⟨rfl, ta, pa, n, So, T, P, g, h, w, b, ra, rb, rc, fl, hL, hV, hW, hX, hM⟩
set_option maxHeartbeats 4000000 in
theorem lw_place (l : Launch) (D : va_G) (cA : Nat → ClassId) {ro : Nat → Nat} {I : Nat → Nat → Int32} {F : Nat → Nat → Option Nat} {ad : Nat → Nat} (hS : ol_ST ro I F ad) (t i u : Int32) : ol_M l D cA yX10_place cX10_place 5 (some .int) (ol_r 2 0 0) [.ref (ad 1), .int t, .int i, .int u] ro I F (ol_po ad yX11_place cX11_place 4 (ol_r 2 0 0) [.ref (ad 10), .int t, .int i, .int u]) := by
  obtain ⟨ta, pa, n, So, T, P, g, h, w, b, ra, rb, rc, fl, hL, hV, hW, hX, hM⟩ := hS
  have h40 := hV.1
  refine (x_place l D cA hV hL hX.xt t i u).mono ?_
  rintro r ro' I' F' ⟨rfl, rfl, rfl, rfl⟩
  by_cases hC : (ol_k n t ∧ (u = -1000009 ∨ ol_k n u)) ∧ ol_k 6 i
  · have hK := hC.1.1
    have eu := ol_d_e h40 hC.1.2
    obtain ⟨j, hj, rfl, hj31⟩ := ol_k_ix hK h40
    obtain ⟨m, hm, rfl, hm31⟩ := ol_k_ix hC.2 (by decide)
    rw [ol_if_t hC, ol_if_t hC.1, ol_if_t hC.2, nI_clamp hj31, nI_clamp hm31]
    obtain ⟨hX2, hL2⟩ := hX.place (i0 := m) hL hV hj (ol_d n u)
    refine ⟨_, rfl, hL.is 10 (by decide) (by decide) rfl, fun l D cA => (mm_place l D cA hL2 hM.1.1 h40 (nI j) (nI m) u).mono ?_⟩
    rintro r ro' I' F' ⟨rfl, rfl, rfl, rfl⟩
    rw [ol_if_t hC, ol_if_t hC.1, ol_if_t hC.2, nI_clamp hj31, nI_clamp hm31]
    have hV2 := hV.up1 (i := 1 + m) (j := j) (ol_d_lt (t := u) h40)
    have hM2 := hM.place hL2 (j := j) hm (ol_d n u)
    rw [eu] at hM2
    exact ⟨rfl, ta, pa, n, So, T, _, g, h, w, b, ra, rb, rc, fl, hL2, hV2, hW, hX2.mo hL2 hV2 ((ol_mo_rf ad _).up _ u (by decide)), hM2⟩
  · rw [ol_if_f hC]
    refine ⟨_, rfl, hL.is 10 (by decide) (by decide) rfl, fun l D cA => (mm_place l D cA hL hM.1.1 h40 t i u).mono ?_⟩
    rintro r ro' I' F' ⟨rfl, rfl, rfl, rfl⟩
    rw [ol_if_f hC]
    exact ⟨rfl, ta, pa, n, So, T, P, g, h, w, b, ra, rb, rc, fl, hL, hV, hW, hX, hM⟩
set_option maxHeartbeats 4000000 in
theorem lw_thing (l : Launch) (D : va_G) (cA : Nat → ClassId) {ro : Nat → Nat} {I : Nat → Nat → Int32} {F : Nat → Nat → Option Nat} {ad : Nat → Nat} (hS : ol_ST ro I F ad) (s2 k v : Int32) : ol_M l D cA yX10_thing cX10_thing 5 (some .int) (ol_r 6 2 13) [.ref (ad 1), .int s2, .int k, .int v] ro I F (ol_po ad yX11_thing cX11_thing 6 (ol_r 1 0 0) [.ref (ad 10), .int s2, .int k, .int v]) := by
  obtain ⟨ta, pa, n, So, T, P, g, h, w, b, ra, rb, rc, fl, hL, hV, hW, hX, hM⟩ := hS
  have h40 := hV.1
  refine (x_thing l D cA hL hX.xt.1 h40 s2 k v).mono ?_
  rintro r ro' I' F' (⟨hK, rfl, rfl, rfl, rfl⟩ | ⟨hK, hn, rfl, rfl, rfl, rfl⟩ | ⟨hK, hn, rfl, a, q, ha, hq, haq, rfl, rfl, rfl⟩)
  · refine ⟨_, rfl, hL.is 10 (by decide) (by decide) rfl, fun l D cA => (mm_thing l D cA hL hM.1.1 h40 s2 k v).mono ?_⟩
    rintro r ro' I' F' ⟨rfl, rfl, ⟨-, rfl, rfl⟩ | ⟨q, -⟩ | ⟨q, -⟩⟩
    · exact ⟨rfl, ta, pa, n, So, T, P, g, h, w, b, ra, rb, rc, fl, hL, hV, hW, hX, hM⟩
    · exact absurd q hK
    · exact absurd q hK
  · refine ⟨_, rfl, hL.is 10 (by decide) (by decide) rfl, fun l D cA => (mm_thing l D cA hL hM.1.1 h40 s2 k v).mono ?_⟩
    rintro r ro' I' F' ⟨rfl, rfl, ⟨q, -⟩ | ⟨-, -, rfl, rfl⟩ | ⟨-, q, -⟩⟩
    · exact absurd hK q
    · exact ⟨rfl, ta, pa, n, So, T, P, g, h, w, b, ra, rb, rc, fl, hL, hV, hW, hX, hM⟩
    · omega
  · obtain ⟨s, hs, rfl, hs31⟩ := ol_k_ix hK (by decide)
    rw [nI_clamp hs31]
    obtain ⟨hX2, hL2, mk⟩ := hX.thing hL hV hW ha hq haq (s := s) k v
    have hM2 := hM.mk mk
    refine ⟨_, rfl, hL2.is 10 (by decide) (by decide) rfl, fun l D cA => (mm_thing l D cA hL2 hM2.1.1 h40 (nI s) k v).mono ?_⟩
    rintro r ro' I' F' ⟨rfl, rfl, ⟨q, -⟩ | ⟨-, q, -⟩ | ⟨-, -, rfl, hm⟩⟩
    · exact absurd hK q
    · omega
    · have hV2 := hV.thing hn (s := s) (by omega) k v
      obtain ⟨hM3, mo⟩ := hM2.thing hL2 hm
      exact ⟨rfl, _, _, n + 1, _, _, _, g, h, w, b, ra, rb, rc, fl, hL2, hV2, hW.succ, hX2.mo hL2 hV2 mo, hM3⟩
set_option maxHeartbeats 4000000 in
theorem lw_copy (l : Launch) (D : va_G) (cA : Nat → ClassId) {ro : Nat → Nat} {I : Nat → Nat → Int32} {F : Nat → Nat → Option Nat} {ad : Nat → Nat} (hS : ol_ST ro I F ad) (t a u b2 k : Int32) : ol_M l D cA yX10_copy cX10_copy 9 (some .int) (ol_r 2 0 0) [.ref (ad 1), .int t, .int a, .int u, .int b2, .int k] ro I F (ol_po ad yX11_copy cX11_copy 7 (ol_r 2 0 0) [.ref (ad 10), .int t, .int a, .int u, .int b2, .int k]) := by
  obtain ⟨ta, pa, n, So, T, P, g, h, w, b, ra, rb, rc, fl, hL, hV, hW, hX, hM⟩ := hS
  have h40 := hV.1
  refine (x_copy l D cA hV hL hX.xt t a u b2 k).mono ?_
  rintro r ro' I' F' ⟨rfl, rfl, ⟨hN, rfl, rfl⟩ | ⟨hY, hN, rfl, rfl⟩ | ⟨jt, ju, ka, kb, kn, m, rfl, rfl, hjt, hju, rfl, rfl, rfl, h6, h6b, hcp, rfl, g1, g2, g3⟩⟩
  · refine ⟨_, rfl, hL.is 10 (by decide) (by decide) rfl, fun l D cA => (mm_copy l D cA hL hM.1 hV t a u b2 k).mono ?_⟩
    rintro r ro' I' F' ⟨rfl, rfl, ⟨-, rfl, rfl⟩ | ⟨q, -⟩ | ⟨jt, ju, ka, kb, kn, m, I1, rfl, rfl, hjt, hju, -⟩⟩
    · exact ⟨rfl, ta, pa, n, So, T, P, g, h, w, b, ra, rb, rc, fl, hL, hV, hW, hX, hM⟩
    · exact absurd q hN
    · exact absurd ⟨ol_k_nI (by omega) hjt, ol_k_nI (by omega) hju⟩ hN
  · refine ⟨_, rfl, hL.is 10 (by decide) (by decide) rfl, fun l D cA => (mm_copy l D cA hL hM.1 hV t a u b2 k).mono ?_⟩
    rintro r ro' I' F' ⟨rfl, rfl, ⟨q, -⟩ | ⟨-, -, rfl, rfl⟩ | ⟨jt, ju, ka, kb, kn, m, I1, rfl, rfl, hjt, hju, rfl, rfl, rfl, h6, h6b, -⟩⟩
    · exact absurd hY q
    · exact ⟨rfl, ta, pa, n, So, T, P, g, h, w, b, ra, rb, rc, fl, hL, hV, hW, hX, hM⟩
    · exact absurd ⟨⟨ka, kn, rfl, rfl, h6⟩, ⟨kb, kn, rfl, rfl, h6b⟩⟩ hN
  · have hmn := hcp.1
    obtain ⟨hX2, hL2⟩ := hX.copy hL hV hjt hju (by omega) g1 g2 g3
    have hV2 := hV.copy (ju := ju) (kb := kb) hjt (show ka + m ≤ 6 by omega)
    refine ⟨_, rfl, hL.is 10 (by decide) (by decide) rfl, fun l D cA => (mm_copy l D cA hL2 hM.1 hV (nI jt) (nI ka) (nI ju) (nI kb) (nI kn)).mono ?_⟩
    rintro r ro' I' F' ⟨rfl, rfl, ⟨q, -⟩ | ⟨-, q, -⟩ | ⟨jt2, ju2, ka2, kb2, kn2, m2, I1, e1, e2, hjt2, hju2, e3, e4, e5, h62, h6b2, hcp2, rfl, hs, k1, k2, k3⟩⟩
    · exact absurd ⟨ol_k_nI (by omega) hjt, ol_k_nI (by omega) hju⟩ q
    · exact absurd ⟨⟨ka, kn, rfl, rfl, h6⟩, ⟨kb, kn, rfl, rfl, h6b⟩⟩ q
    · obtain rfl := (nI_eq (by omega) (by omega)).mp e1
      obtain rfl := (nI_eq (by omega) (by omega)).mp e2
      obtain rfl := (nI_eq (by omega) (by omega)).mp e3
      obtain rfl := (nI_eq (by omega) (by omega)).mp e4
      obtain rfl := (nI_eq (by omega) (by omega)).mp e5
      obtain rfl := ol_cp_uq hcp hcp2
      have hM2 := (hM.sq hL2 hs).copy hL2 hju (by omega) k1 k2 k3
      have mo := hs.mo2.trans (show ol_mo ad _ _ from fun a ha => k1 a (ha 26 (by decide)))
      exact ⟨rfl, ta, pa, n, So, T, _, g, h, w, b, ra, rb, rc, fl, hL2, hV2, hW, hX2.mo hL2 hV2 mo, hM2⟩
set_option maxHeartbeats 4000000 in
theorem lw_load (l : Launch) (D : va_G) (cA : Nat → ClassId) {ro : Nat → Nat} {I : Nat → Nat → Int32} {F : Nat → Nat → Option Nat} {ad : Nat → Nat} (hS : ol_ST ro I F ad) (t bk : Int32) : ol_M l D cA yX10_load cX10_load 6 (some .int) (ol_r 6 0 0) [.ref (ad 1), .int t, .int bk] ro I F (ol_po ad yX11_load cX11_load 6 (ol_r 5 0 0) [.ref (ad 10), .int t, .int bk]) := by
  obtain ⟨ta, pa, n, So, T, P, g, h, w, b, ra, rb, rc, fl, hL, hV, hW, hX, hM⟩ := hS
  have h40 := hV.1
  have hh0 := hX.2.2.2.2.2.2.1
  refine (m_load l D cA hV hX.hh hL hX.2.2.2.1 hX.xt hh0 hX.2.2.1 t bk).mono ?_
  rintro r ro' I' F' ⟨rfl, ⟨hN, rfl, rfl, rfl⟩ | ⟨j, rfl, hj, hs, rfl, rfl, rfl⟩ | ⟨j, rfl, hj, hs, hc⟩⟩
  · refine ⟨_, rfl, hL.is 10 (by decide) (by decide) rfl, fun l D cA => (mm_load l D cA hL hM.1 hV hM.2.1 hM.2.2.1 t bk).mono ?_⟩
    rintro r ro' I' F' ⟨rfl, rfl, ⟨-, rfl, rfl⟩ | ⟨j, rfl, hj, -⟩ | ⟨j, rfl, hj, -⟩⟩
    · exact ⟨rfl, ta, pa, n, So, T, P, g, h, w, b, ra, rb, rc, fl, hL, hV, hW, hX, hM⟩
    · exact absurd (ol_k_nI (by omega) hj) hN
    · exact absurd (ol_k_nI (by omega) hj) hN
  · refine ⟨_, rfl, hL.is 10 (by decide) (by decide) rfl, fun l D cA => (mm_load l D cA hL hM.1 hV hM.2.1 hM.2.2.1 (nI j) bk).mono ?_⟩
    rintro r ro' I' F' ⟨rfl, rfl, ⟨q, -⟩ | ⟨j2, e, hj2, hs2, rfl, rfl⟩ | ⟨j2, e, hj2, hs2, -⟩⟩
    · exact absurd (ol_k_nI (by omega) hj) q
    · exact ⟨rfl, ta, pa, n, So, T, P, g, h, w, b, ra, rb, rc, fl, hL, hV, hW, hX, hM⟩
    · obtain rfl := (nI_eq (by omega) (by omega)).mp e
      exact absurd hs hs2
  · rcases hc with ⟨hR, rfl, F2, hI, rfl⟩ | ⟨u, q, z, I2, kc, kf, hR, hz, rfl, hI, rfl⟩
    · obtain ⟨hX2, hL2, mk⟩ := hX.loaded hL hV hI
      have hM2 := hM.mk mk
      refine ⟨_, rfl, hL.is 10 (by decide) (by decide) rfl, fun l D cA => (mm_load l D cA hL2 hM2.1 hV hM2.2.1 hM2.2.2.1 (nI j) bk).mono ?_⟩
      rintro r ro' I' F' ⟨rfl, rfl, ⟨q, -⟩ | ⟨j2, e, hj2, hs2, -, -⟩ | ⟨j2, e, hj2, hs2, hc⟩⟩
      · exact absurd (ol_k_nI (by omega) hj) q
      · obtain rfl := (nI_eq (by omega) (by omega)).mp e
        exact absurd hs2 hs
      · obtain rfl := (nI_eq (by omega) (by omega)).mp e
        rcases hc with ⟨-, rfl, I3, hI3, rfl⟩ | ⟨u, q, z, I3, kc, kf, hR2, -⟩
        · obtain ⟨hM3, mo⟩ := hM2.loaded hL2 hI3 (-1000009) (-1000009)
          have hV2 := hV.up4 (sp_R So T P (¬ bk = 0) j).1.1
          exact ⟨rfl, ta, pa, n, So, _, P, h, g, 1 - w, _, -1000009, -1000009, 0, fl, hL2, hV2, sp_R_GW hV hj hs hR, hX2.mo hL2 hV2 mo, hM3⟩
        · rw [hR] at hR2
          cases hR2
    · obtain ⟨hX2, hL2, mk⟩ := hX.failed hL hV hI (nI u) (ol_e q) z
      have hM2 := hM.mk mk
      refine ⟨_, rfl, hL.is 10 (by decide) (by decide) rfl, fun l D cA => (mm_load l D cA hL2 hM2.1 hV hM2.2.1 hM2.2.2.1 (nI j) bk).mono ?_⟩
      rintro r ro' I' F' ⟨rfl, rfl, ⟨q, -⟩ | ⟨j2, e, hj2, hs2, -, -⟩ | ⟨j2, e, hj2, hs2, hc⟩⟩
      · exact absurd (ol_k_nI (by omega) hj) q
      · obtain rfl := (nI_eq (by omega) (by omega)).mp e
        exact absurd hs2 hs
      · obtain rfl := (nI_eq (by omega) (by omega)).mp e
        rcases hc with ⟨hR2, -⟩ | ⟨u2, q2, z2, I3, kc2, kf2, hR2, -, rfl, hI3, rfl⟩
        · rw [hR] at hR2
          cases hR2
        · rw [hR] at hR2
          have e3 := Option.some.inj hR2
          obtain ⟨rfl, e4⟩ := Prod.mk.inj e3
          obtain ⟨rfl, rfl⟩ := Prod.mk.inj e4
          obtain ⟨hM3, mo⟩ := hM2.failed hW hL2 hI3 (nI u) (ol_e q) z
          have hV2 := hV.up4 (sp_R So T P (¬ bk = 0) j).1.1
          exact ⟨rfl, ta, pa, n, So, _, P, g, h, w, b, nI u, ol_e q, z, fl + 1, hL2, hV2, hW, hX2.mo hL2 hV2 mo, hM3⟩