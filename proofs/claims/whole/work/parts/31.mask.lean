set_option maxRecDepth 100000 in
set_option maxHeartbeats 4000000 in
theorem mm_arcsOf (l : Launch) (D : va_G) (cA : Nat → ClassId) {ro : Nat → Nat} {I : Nat → Nat → Int32} {F : Nat → Nat → Option Nat} {ad : Nat → Nat} (hL : ol_L ro F ad) {g n : Nat} {So : Nat → Nat} {T : Nat → Nat → Int32} {P : Nat → Nat → Option Nat} (hV : ol_V n So T P) (hg : g < 2) {I0 : Nat → Nat → Int32} {kc kf : Nat} {b : ol_B} {M t : Nat} (hI : ol_LI ad g n So T P I0 I b kc kf) (hB : ol_BW n So b M) (ht : t < n) (hc : sp_lc So T P t = 0) (hM : M + 6 ≤ 240) (h2 : I (ad 10) 11 = nI (sp_ln So P t)) (h3 : ∀ j, j < sp_ln So P t → I (ad 30) j = ol_e (sp_lk So T P t j)) : ol_M l D cA yX11_arcsOf cX11_arcsOf 8 (some FieldType.int) (ol_r 2 0 0) [.ref (ad 10), .int (nI g), .int (nI t)] ro I F (fun v ro' I' F' => ro' = ro ∧ F' = F ∧ (((sp_ls So T P t (sp_ln So P t) 0 b).2 = none ∧ v = some (.int 0) ∧ ol_LI ad g n So T P I0 I' (sp_ls So T P t (sp_ln So P t) 0 b).1 kc kf ∧ I' (ad 41) = I (ad 41)) ∨ ∃ (u : Nat) (z : Int32) (I2 : Nat → Nat → Int32), (sp_ls So T P t (sp_ln So P t) 0 b).2 = some (u, z) ∧ (z = 1 ∨ z = 3) ∧ v = some (.int (-1000010 - z)) ∧ ol_LI ad g n So T P I0 I2 (sp_ls So T P t (sp_ln So P t) 0 b).1 kc kf ∧ I' = ol_rfu I2 ad (nI u) (-1000009) z)) := by
  refine ol_M.of (by decide +kernel) (Nat.le_of_ble_eq_true rfl) (by simp [Value.category, ol_rfc]) ?_
  intro p e s m args below meth c C hret hlk hin
  have hm : ol_is ro (ad 10) (.inl 9) := hL.is 10 (by decide) (by decide) rfl
  have f_sorts : F (ad 10) 1 = some (ad 22) := hL.mf 1 22 (by decide)
  have i_sorts : ol_is ro (ad 22) (.inr (0, 40)) := hL.is 22 (by decide) (by decide) rfl
  have f_askedOf : F (ad 10) 7 = some (ad 28) := hL.mf 7 28 (by decide)
  have i_askedOf : ol_is ro (ad 28) (.inr (0, 40)) := hL.is 28 (by decide) (by decide) rfl
  have f_links : F (ad 10) 10 = some (ad 30) := hL.mf 10 30 (by decide)
  have i_links : ol_is ro (ad 30) (.inr (0, 6)) := hL.is 30 (by decide) (by decide) rfl
  have f_arcsIn : F (ad 10) 18 = some (ad 36) := hL.mf 18 36 (by decide)
  have i_arcsIn : ol_is ro (ad 36) (.inr (0, 2)) := hL.is 36 (by decide) (by decide) rfl
  have f_arcTo : F (ad 10) 19 = some (ad 37) := hL.mf 19 37 (by decide)
  have i_arcTo : ol_is ro (ad 37) (.inr (0, 480)) := hL.is 37 (by decide) (by decide) rfl
  have f_arcWeight : F (ad 10) 20 = some (ad 38) := hL.mf 20 38 (by decide)
  have i_arcWeight : ol_is ro (ad 38) (.inr (0, 480)) := hL.is 38 (by decide) (by decide) rfl
  have f_arcBridge : F (ad 10) 21 = some (ad 39) := hL.mf 21 39 (by decide)
  have i_arcBridge : ol_is ro (ad 39) (.inr (1, 480)) := hL.is 39 (by decide) (by decide) rfl
  have f_holeMany : F (ad 10) 22 = some (ad 40) := hL.mf 22 40 (by decide)
  have i_holeMany : ol_is ro (ad 40) (.inr (0, 2)) := hL.is 40 (by decide) (by decide) rfl
  refine ol_iconst (v := 0) C dX11_arcsOf_0 (by decide) ?_
  refine ol_istore_n C dX11_arcsOf_1 rfl (by decide) ?_
  refine ol_lv (lv' := [some (.ref (ad 10)), some (.int (nI g)), some (.int (nI t)), some (.int (nI 0)), none, none, none, none]) (by intro i v h; rcases i with _|_|_|_|_|_|_|_|i <;> first | exact h | (simp at h)) ?_
  refine lp_arcs C hL hV hg (Rs := sp_ls So T P t (sp_ln So P t) 0 b) ht hc hM (by decide) (by decide) (fun I2 b2 hI2 hB2 h41 hR => ?_) (fun I2 b2 u z hI2 hB2 hu hz hR => ?_) (sp_ln So P t) 0 I b (by omega) hI (hB.mono (by omega)) rfl h2 h3 rfl
  · refine ol_iconst (v := 0) C dX11_arcsOf_199 (by decide) ?_
    exact ol_iret C hret hlk rfl (by decide) (by decide) dX11_arcsOf_200 ⟨rfl, rfl, Or.inl ⟨by rw [hR], rfl, by rw [hR]; exact hI2, h41⟩⟩
  · refine ol_aload_n C dX11_arcsOf_81 rfl rfl (by first | exact ol_isq_r _ | exact ol_isq_q _ | exact ol_isq_n) ?_
    refine ol_iload C dX11_arcsOf_82 rfl ?_
    refine ol_ldc (v := (-1000009)) C wd_677 dX11_arcsOf_84 ?_
    refine ol_iload C dX11_arcsOf_86 rfl ?_
    refine ol_callV C (mm_refuse l D cA hL (nI u) (-1000009) z) hm.1 hm.2 rfl wd_733 wd_4 wd_730 wd_732 wq_17 mh_X11_refuse (by decide) rfl (by first | exact Nat.le_of_ble_eq_true rfl | simp [ol_rfc, Value.category]) dX11_arcsOf_88 (ol_xi ?_)
    exact ol_iret C hret hlk rfl (by decide) (by decide) dX11_arcsOf_91 ⟨rfl, rfl, Or.inr ⟨u, z, I2, by rw [hR], hz, rfl, by rw [hR]; exact hI2, rfl⟩⟩

set_option maxRecDepth 100000 in
set_option maxHeartbeats 4000000 in
theorem lp_keys {p : Program} {l : Launch} {e : Env} {R : Room} {s : State} {m : MethodId} {args : Array Value} {below : List Frame} {meth : Method} {c : Code} {D : va_G} {cA : Nat → ClassId} {A : Nat → Prop} {Q : State → Prop} {ro : Nat → Nat} {F : Nat → Nat → Option Nat} {cells slots : Nat} (C : ol_Cx p s m args c cX11_ask 7 yX11_ask.cls D cA A) {ad : Nat → Nat} (hL : ol_L ro F ad) {T : Nat → Nat → Int32} {N1 : Nat → Nat} {I : Nat → Nat → Int32} {g k t : Nat} (hg : g < 2) (hk40 : k < 40) (hky : ∀ j, j < k → I (ad 41) j = T 1 (N1 j)) (htd : I (ad 10) 9 = T 1 t) (hth : ∀ j, j < k → I (ad 32) (40 * g + j) = nI (N1 j)) {x3 x5 : Option Value} {Rs : Option Nat} (ex : Rs = none → ol_W p l e R s m args below meth c D cA A Q 7 ro I F cells slots 112 [some (.ref (ad 10)), some (.int (nI g)), some (.int (nI k)), x3, some (.int (nI t)), none, none] []) (ex2 : ∀ j, Rs = some j → j < k → ol_W p l e R s m args below meth c D cA A Q 7 ro I F cells slots 85 [some (.ref (ad 10)), some (.int (nI g)), some (.int (nI k)), x3, some (.int (nI t)), x5, some (.int (nI j))] []) : ∀ (d j : Nat), j + d = k → sp_dk T N1 t d j = Rs → ol_W p l e R s m args below meth c D cA A Q 7 ro I F cells slots 65 [some (.ref (ad 10)), some (.int (nI g)), some (.int (nI k)), x3, some (.int (nI t)), x5, some (.int (nI j))] [] := by
  have hm : ol_is ro (ad 10) (.inl 9) := hL.is 10 (by decide) (by decide) rfl
  have f_askedOf : F (ad 10) 7 = some (ad 28) := hL.mf 7 28 (by decide)
  have i_askedOf : ol_is ro (ad 28) (.inr (0, 40)) := hL.is 28 (by decide) (by decide) rfl
  have f_thingOf : F (ad 10) 14 = some (ad 32) := hL.mf 14 32 (by decide)
  have i_thingOf : ol_is ro (ad 32) (.inr (0, 80)) := hL.is 32 (by decide) (by decide) rfl
  have f_columns : F (ad 10) 16 = some (ad 34) := hL.mf 16 34 (by decide)
  have i_columns : ol_is ro (ad 34) (.inr (0, 80)) := hL.is 34 (by decide) (by decide) rfl
  have f_firstArc : F (ad 10) 17 = some (ad 35) := hL.mf 17 35 (by decide)
  have i_firstArc : ol_is ro (ad 35) (.inr (0, 82)) := hL.is 35 (by decide) (by decide) rfl
  have f_arcsIn : F (ad 10) 18 = some (ad 36) := hL.mf 18 36 (by decide)
  have i_arcsIn : ol_is ro (ad 36) (.inr (0, 2)) := hL.is 36 (by decide) (by decide) rfl
  have f_keyOf : F (ad 10) 27 = some (ad 41) := hL.mf 27 41 (by decide)
  have i_keyOf : ol_is ro (ad 41) (.inr (0, 40)) := hL.is 41 (by decide) (by decide) rfl
  intro d
  induction d with
  | zero =>
    intro j hm hR
    have hk6 : j = k := by omega
    subst hk6
    refine ol_iload C dX11_ask_65 rfl ?_
    refine ol_iload_n C dX11_ask_67 rfl rfl ?_
    refine ol_icmp_ge (tgt := 112) C dX11_ask_68 (by decide) (fun c_68 => ?_) (fun c_68 => absurd (Int32.le_refl (nI j)) c_68)
    refine ol_lv (lv' := [some (.ref (ad 10)), some (.int (nI g)), some (.int (nI j)), x3, some (.int (nI t)), none, none]) (by intro i v h; rcases i with _|_|_|_|_|_|_|i <;> first | exact h | (simp at h)) (ex hR.symm)
  | succ d ih =>
    intro j hm hR
    have hmk : j < k := by omega
    refine ol_iload C dX11_ask_65 rfl ?_
    refine ol_iload_n C dX11_ask_67 rfl rfl ?_
    refine ol_icmp_ge (tgt := 112) C dX11_ask_68 (by decide) (fun c_68 => absurd c_68 (nI_ge hmk (by omega))) (fun c_68 => ?_)
    refine ol_aload_n C dX11_ask_71 rfl rfl (by first | exact ol_isq_r _ | exact ol_isq_q _ | exact ol_isq_n) ?_
    refine ol_gR (k := 27) C (by assumption) rfl rfl wd_607 (.inl rfl) dX11_ask_72 ?_
    refine ol_rf (by assumption) ?_
    refine ol_iload C dX11_ask_75 rfl ?_
    refine ol_lI j C (by assumption) rfl (by omega) (by decide) dX11_ask_77 ?_
    refine ol_ti (hky j hmk) ?_
    refine ol_aload_n C dX11_ask_78 rfl rfl (by first | exact ol_isq_r _ | exact ol_isq_q _ | exact ol_isq_n) ?_
    refine ol_gI (k := 9) C (by assumption) rfl rfl wd_589 (.inl rfl) dX11_ask_79 ?_
    refine ol_ti htd ?_
    refine ol_icmp_ne (tgt := 106) C dX11_ask_82 (by decide) (fun c_82 => ?_) (fun c_82 => ?_)
    · refine ol_iincN C dX11_ask_106 rfl (by decide) ?_
      refine ol_goto (tgt := 65) C dX11_ask_109 (by decide) ?_
      exact ih (j + 1) (by omega) (by rw [← hR, sp_dk, ol_if_f c_82])
    · exact ex2 j (by rw [← hR, sp_dk, ol_if_t c_82]) hmk
