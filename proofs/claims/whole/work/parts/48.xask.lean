/-- what came out of asking, as the class holds it -/
def ol_x3 (ro : Nat → Nat) (ad ta pa : Nat → Nat) (g n : Nat) (So : Nat → Nat) (T : Nat → Nat → Int32) (P : Nat → Nat → Option Nat) (I0 : Nat → Nat → Int32) (F0 : Nat → Nat → Option Nat) (R : ol_B × ol_Fl) (kc kf : Nat) (w : Int32) (I' : Nat → Nat → Int32) (F' : Nat → Nat → Option Nat) : Prop :=
  (R.2 = none ∧ w = 1 ∧ ol_XI ro ad ta pa g n So T P I0 F0 I' F' R.1 kc kf) ∨ ∃ (u : Nat) (o : Option Nat) (z : Int32) (I2 : Nat → Nat → Int32) (kc2 kf2 : Nat), R.2 = some (u, o, z) ∧ (z = 1 ∨ z = 2 ∨ z = 3 ∨ z = 4 ∨ z = 6) ∧ w = 0 ∧ ol_XI ro ad ta pa g n So T P I0 F0 I2 F' R.1 kc2 kf2 ∧ I' = ol_xr I2 ad (nI u) (ol_e o) z
section OLS4
variable {n : Nat} {So : Nat → Nat} {T : Nat → Nat → Int32} {P : Nat → Nat → Option Nat} {t d i k : Nat} {b b4 : ol_B}
theorem sp_ls_s (h : (sp_fo So T P t (sp_lk So T P t i) b).2 = none) : sp_ls So T P t (d + 1) i b = sp_ls So T P t d (i + 1) (sp_fo So T P t (sp_lk So T P t i) b).1 := by
  rw [sp_ls]
  revert h
  cases sp_fo So T P t (sp_lk So T P t i) b with
  | mk b5 f5 =>
    intro h
    dsimp only at h
    subst h
    rfl
theorem sp_ls_f {f : Nat × Int32} (h : (sp_fo So T P t (sp_lk So T P t i) b).2 = some f) : sp_ls So T P t (d + 1) i b = ((sp_fo So T P t (sp_lk So T P t i) b).1, some f) := by
  rw [sp_ls]
  revert h
  cases sp_fo So T P t (sp_lk So T P t i) b with
  | mk b5 f5 =>
    intro h
    dsimp only at h
    subst h
    rfl
theorem sp_fo_BW (hV : ol_V n So T P) {M : Nat} (hB : ol_BW n So b M) {q : Option Nat} (hq : ∀ u, q = some u → u < n) : ol_BW n So (sp_fo So T P t q b).1 (M + 1) := by
  cases q with
  | none => exact hB.hole.mono (by omega)
  | some u =>
    have hu := hq u rfl
    by_cases hs : So u = 2
    · cases he : sp_en P u t with
      | none =>
        rw [sp_fo_1 hs he]
        exact (hB.ask u).mono (by omega)
      | some e =>
        by_cases hse : So e = 2
        · rw [sp_fo_3 hs he hse]
          exact (hB.ask u).mono (by omega)
        · rw [sp_fo_b hs he hse]
          exact ((hB.ask u).ask u).arc (T 2 u) 1 (sp_en_lt hV hu he) hse
    · rw [sp_fo_n hs]
      exact hB.arc 1 0 hu hs
theorem sp_n3_none (hl0 : sp_lc So T P t = 0) (h : sp_ls So T P t (sp_ln So P t) 0 (sp_ask b t) = (b4, none)) : sp_n3 So T P k t b = ((b4.1, ol_u2 b4.2.1 2 (k + 1) (b4.2.1 0 1), b4.2.2), none) := by
  unfold sp_n3
  rw [ol_if_t hl0, h]
theorem sp_n3_some {q : Nat × Int32} (hl0 : sp_lc So T P t = 0) (h : sp_ls So T P t (sp_ln So P t) 0 (sp_ask b t) = (b4, some q)) : sp_n3 So T P k t b = (b4, some (q.1, none, q.2)) := by
  unfold sp_n3
  rw [ol_if_t hl0, h]
theorem sp_n3_f (hl0 : ¬ sp_lc So T P t = 0) : sp_n3 So T P k t b = (sp_ask b t, some (t, none, sp_lc So T P t)) := by
  unfold sp_n3
  rw [ol_if_f hl0]
end OLS4

set_option maxRecDepth 100000 in
set_option maxHeartbeats 4000000 in
theorem lp_xl {p : Program} {l : Launch} {e : Env} {R : Room} {s : State} {m : MethodId} {args : Array Value} {below : List Frame} {meth : Method} {c : Code} {D : va_G} {cA : Nat → ClassId} {A : Nat → Prop} {Q : State → Prop} {ro : Nat → Nat} {cells slots : Nat} (C : ol_Cx p s m args c cX10_askLinks 6 yX10_askLinks.cls D cA A) {ad ta pa : Nat → Nat} {g n : Nat} {So : Nat → Nat} {T : Nat → Nat → Int32} {P : Nat → Nat → Option Nat} (hV : ol_V n So T P) (hg : g ∈ [50, 60]) {I0 : Nat → Nat → Int32} {F0 : Nat → Nat → Option Nat} {kc kf M t k : Nat} {Rs : ol_B × Option (Nat × Int32)} (ht : t < n) (hnb : ¬ So t = 2) (hc : sp_lc So T P t = 0) (hM : M + 6 ≤ 240) (hR2 : ol_rm R (ol_r 2 0 0) 2 cells slots) (hR3 : ol_rm R (ol_r 3 0 0) 4 cells slots) (ex : ∀ (I : Nat → Nat → Int32) (F : Nat → Nat → Option Nat) (b : ol_B), ol_XI ro ad ta pa g n So T P I0 F0 I F b kc kf → Rs = (b, none) → ol_W p l e R s m args below meth c D cA A Q 6 ro I F cells slots 64 [some (.ref (ad 1)), some (.int (nI k)), some (.ref (ta t)), none, some (.int (nI (sp_ln So P t))), some (.int (nI (sp_ln So P t)))] []) (ex2 : ∀ (I : Nat → Nat → Int32) (F : Nat → Nat → Option Nat) (b : ol_B) (u : Nat) (z : Int32), ol_XI ro ad ta pa g n So T P I0 F0 I F b kc kf → (z = 1 ∨ z = 3) → Rs = (b, some (u, z)) → ol_W p l e R s m args below meth c D cA A Q 6 ro (ol_xr I ad (nI u) (-1000009) z) F cells slots 56 [some (.ref (ad 1)), none, none, none, none, none] []) : ∀ (d i : Nat) (I : Nat → Nat → Int32) (F : Nat → Nat → Option Nat) (b : ol_B), i + d = sp_ln So P t → ol_XI ro ad ta pa g n So T P I0 F0 I F b kc kf → ol_BW n So b (M + i) → sp_ls So T P t d i b = Rs → ol_W p l e R s m args below meth c D cA A Q 6 ro I F cells slots 35 [some (.ref (ad 1)), some (.int (nI k)), some (.ref (ta t)), none, some (.int (nI (sp_ln So P t))), some (.int (nI i))] [] := by
  intro d
  induction d with
  | zero =>
    intro i I F b hk hI hB hR
    have hk6 : i = sp_ln So P t := by omega
    subst hk6
    refine ol_iload C dX10_askLinks_35 rfl ?_
    refine ol_iload C dX10_askLinks_37 rfl ?_
    refine ol_icmp_ge (tgt := 64) C dX10_askLinks_39 (by decide) (fun c_39 => ?_) (fun c_39 => absurd (Int32.le_refl (nI (sp_ln So P t))) c_39)
    exact ex I F b hI hR.symm
  | succ d ih =>
    intro i I F b hk hI hB hR
    have hi6 : i < sp_ln So P t := by omega
    have l6 := sp_ln_le So P t
    have hx1 : ol_is ro (ad 1) (.inl 0) := hI.1.is 1 (by decide) (by decide) rfl
    have hq : ∀ u, sp_lk So T P t i = some u → u < n := fun u hu => sp_lk_lt hV ht hc hi6 hu
    refine ol_iload C dX10_askLinks_35 rfl ?_
    refine ol_iload C dX10_askLinks_37 rfl ?_
    refine ol_icmp_ge (tgt := 64) C dX10_askLinks_39 (by decide) (fun c_39 => absurd c_39 (nI_ge hi6 (by omega))) (fun c_39 => ?_)
    refine ol_aload_n C dX10_askLinks_42 rfl rfl (by first | exact ol_isq_r _ | exact ol_isq_q _ | exact ol_isq_n) ?_
    refine ol_aload_n C dX10_askLinks_43 rfl rfl (by first | exact ol_isq_r _ | exact ol_isq_q _ | exact ol_isq_n) ?_
    refine ol_aload_n C dX10_askLinks_44 rfl rfl (by first | exact ol_isq_r _ | exact ol_isq_q _ | exact ol_isq_n) ?_
    refine ol_iload C dX10_askLinks_45 rfl ?_
    refine dv_link_Node C hI.2.2.1 (hV.up4 b.1) ht hnb (i := i) hc hi6 wd_453 hR2 (by simp [Value.category]) dX10_askLinks_47 ?_
    rw [show sp_lk So (va_up T 4 b.1) P t i = sp_lk So T P t i from rfl]
    refine ol_callV C (m_follow l D cA hV hg hI hB (by omega) ht hq) hx1.1 hx1.2 rfl wd_473 wd_1 wd_470 wd_472 wq_9 mh_X10_follow hR3 rfl (by first | exact Nat.le_of_ble_eq_true rfl | simp [ol_rfc, Value.category]) dX10_askLinks_50 (fun v_50 ro_50 I_50 F_50 hh_50 => ?_)
    obtain ⟨rfl, w, rfl, hw⟩ := hh_50
    rcases hw with ⟨h1, rfl, h2⟩ | ⟨u, z, I2, h1, hz, rfl, h2, rfl⟩
    · refine ol_st (st' := [.int _]) rfl ?_
      refine ol_if_ne (tgt := 58) C dX10_askLinks_53 (by decide) (fun c_53 => ?_) (fun c_53 => absurd c_53 (by decide))
      refine ol_iincN C dX10_askLinks_58 rfl (by decide) ?_
      refine ol_goto (tgt := 35) C dX10_askLinks_61 (by decide) ?_
      exact ih (i + 1) _ _ _ (by omega) h2 (sp_fo_BW hV hB hq) (by rw [← hR, sp_ls_s h1])
    · refine ol_st (st' := [.int _]) rfl ?_
      refine ol_if_ne (tgt := 58) C dX10_askLinks_53 (by decide) (fun c_53 => absurd rfl c_53) (fun c_53 => ?_)
      refine ol_lv (lv' := [some (.ref (ad 1)), none, none, none, none, none]) (by intro i v h; rcases i with _|_|_|_|_|_|i <;> first | exact h | (simp at h)) ?_
      exact ex2 I2 _ _ u z h2 hz (by rw [← hR, sp_ls_f h1])

set_option maxRecDepth 100000 in
set_option maxHeartbeats 4000000 in
theorem m_askLinks (l : Launch) (D : va_G) (cA : Nat → ClassId) {ro : Nat → Nat} {I : Nat → Nat → Int32} {F : Nat → Nat → Option Nat} {ad ta pa : Nat → Nat} {g n : Nat} {So : Nat → Nat} {T : Nat → Nat → Int32} {P : Nat → Nat → Option Nat} (hV : ol_V n So T P) (hg : g ∈ [50, 60]) {I0 : Nat → Nat → Int32} {F0 : Nat → Nat → Option Nat} {b : ol_B} {kc k M t : Nat} (h : ol_XI ro ad ta pa g n So T P I0 F0 I F b kc (k + 1)) (hB : ol_BW n So b M) (hk40 : k < 40) (ht : t < n) (hnb : ¬ So t = 2) (hM : M + 6 ≤ 240) : ol_M l D cA yX10_askLinks cX10_askLinks 6 (some FieldType.boolean) (ol_r 4 0 0) [.ref (ad 1), .int (nI k), .ref (ta t)] ro I F (fun v ro' I' F' => ro' = ro ∧ ∃ w, v = some (.int w) ∧ ol_x3 ro ad ta pa g n So T P I0 F0 (sp_n3 So T P k t b) kc (k + 1 + 1) w I' F') := by
  refine ol_M.of (by decide +kernel) (Nat.le_of_ble_eq_true rfl) (by simp [Value.category, ol_rfc]) ?_
  intro p e s m args below meth c C hret hlk hin
  have hL := h.1
  have hb := h.2.1
  have hx1 : ol_is ro (ad 1) (.inl 0) := hL.is 1 (by decide) (by decide) rfl
  have hxt := (h.2.2.1.2.1 t ht).2
  have hth := hxt.th (hV.2 t ht).1
  have hxg : ol_is ro (ad g) (.inl 8) := by rcases ol_5060 hg with rfl | rfl <;> exact hL.is _ (by decide) (by decide) rfl
  have f4 : F (ad g) 3 = some (ad (g + 4)) := by rw [show g + 4 = g + 1 + 3 by omega]; exact hL.gf g 3 hg (by decide)
  have i4 : ol_is ro (ad (g + 4)) (.inr (0, 41)) := by rcases ol_5060 hg with rfl | rfl <;> exact hL.is _ (by decide) (by decide) rfl
  refine ol_aload_n C dX10_askLinks_0 rfl rfl (by first | exact ol_isq_r _ | exact ol_isq_q _ | exact ol_isq_n) ?_
  refine ol_dup C dX10_askLinks_1 (by first | rfl | exact ol_rfc _) ?_
  refine ol_tgI C hth ol_tf6 wd_166 (.inr wd_167) dX10_askLinks_2 ?_
  refine ol_ti (h.asked ht) ?_
  refine ol_iconst (v := 1) C dX10_askLinks_5 (by decide) ?_
  refine ol_iadd C dX10_askLinks_6 ?_
  refine ol_tpI C hth ol_tf6 wd_166 (.inr wd_167) rfl rfl dX10_askLinks_7 ?_
  have hI1 := h.ask hV hg ht
  refine ol_aload_n C dX10_askLinks_10 rfl rfl (by first | exact ol_isq_r _ | exact ol_isq_q _ | exact ol_isq_n) ?_
  refine dv_linksCause_Node C hI1.2.2.1 (hV.up4 _) ht hnb wd_418 (by decide) (by simp [Value.category]) dX10_askLinks_11 ?_
  refine ol_ti (y := sp_lc So T P t) rfl ?_
  refine ol_istore_n C dX10_askLinks_14 rfl (by decide) ?_
  refine ol_iload_n C dX10_askLinks_15 rfl rfl ?_
  refine ol_if_eq (tgt := 26) C dX10_askLinks_16 (by decide) (fun c_16 => ?_) (fun c_16 => ?_)
  · refine ol_aload_n C dX10_askLinks_26 rfl rfl (by first | exact ol_isq_r _ | exact ol_isq_q _ | exact ol_isq_n) ?_
    refine dv_linkCount_Node C hI1.2.2.1 (hV.up4 _) ht hnb wd_438 (by decide) (by simp [Value.category]) dX10_askLinks_27 ?_
    refine ol_istore C dX10_askLinks_30 (by decide) ?_
    refine ol_iconst (v := 0) C dX10_askLinks_32 (by decide) ?_
    refine ol_istore C dX10_askLinks_33 (by decide) ?_
    refine ol_lv (lv' := [some (.ref (ad 1)), some (.int (nI k)), some (.ref (ta t)), none, some (.int (nI (sp_ln So P t))), some (.int (nI 0))]) (by intro i v h; rcases i with _|_|_|_|_|_|i <;> first | exact h | (simp at h)) ?_
    refine lp_xl C hV hg (Rs := sp_ls So T P t (sp_ln So P t) 0 (sp_ask b t)) ht hnb c_16 hM (by decide) (by decide) (fun I5 F5 b5 hI5 hR => ?_) (fun I5 F5 b5 u z hI5 hz hR => ?_) (sp_ln So P t) 0 _ _ (sp_ask b t) (by omega) hI1 ((hB.ask t).mono (by omega)) rfl
    · refine ol_aload_n C dX10_askLinks_64 rfl rfl (by first | exact ol_isq_r _ | exact ol_isq_q _ | exact ol_isq_n) ?_
      have hb5 := hI5.2.1
      have f4b : F5 (ad g) 3 = some (ad (g + 4)) := by rw [show g + 4 = g + 1 + 3 by omega]; exact hI5.1.gf g 3 hg (by decide)
      refine ol_gR (k := 3) C (by assumption) rfl rfl wd_89 (.inl rfl) dX10_askLinks_65 ?_
      refine ol_rf (by assumption) ?_
      refine ol_iload_n C dX10_askLinks_68 rfl rfl ?_
      refine ol_callV C (m_endArcsOf l D cA hxg f4b i4 hk40) hxg.1 hxg.2 rfl wd_493 wd_2 wd_490 wd_491 wd_492 mh_X4_endArcsOf (by decide) rfl (by first | exact Nat.le_of_ble_eq_true rfl | simp [ol_rfc, Value.category]) dX10_askLinks_69 (ol_xv ?_)
      rw [show I5 (ad g) 10 = nI (b5.2.1 0 1) from hI5.2.2.2.1.2.1]
      refine ol_iconst (v := 1) C dX10_askLinks_72 (by decide) ?_
      exact ol_iret C hret hlk rfl (by decide) (by decide) dX10_askLinks_73 ⟨rfl, _, rfl, Or.inl ⟨by rw [sp_n3_none c_16 hR], rfl, by rw [sp_n3_none c_16 hR]; exact hI5.fa hV hg (by omega)⟩⟩
    · refine ol_iconst (v := 0) C dX10_askLinks_56 (by decide) ?_
      exact ol_iret C hret hlk rfl (by decide) (by decide) dX10_askLinks_57 ⟨rfl, _, rfl, Or.inr ⟨u, none, z, I5, _, _, by rw [sp_n3_some c_16 hR], by rcases hz with rfl | rfl <;> simp, rfl, by rw [sp_n3_some c_16 hR]; exact hI5, rfl⟩⟩
  · refine ol_aload_n C dX10_askLinks_19 rfl rfl (by first | exact ol_isq_r _ | exact ol_isq_q _ | exact ol_isq_n) ?_
    refine ol_aload_n C dX10_askLinks_20 rfl rfl (by first | exact ol_isq_r _ | exact ol_isq_q _ | exact ol_isq_n) ?_
    refine ol_iload_n C dX10_askLinks_21 rfl rfl ?_
    refine ol_callV C (m_failed l D cA hL hth (hI1.2.2.1.2.1 t ht).2.2.1 (sp_lc So T P t)) hx1.1 hx1.2 rfl wd_365 wd_1 wd_362 wd_364 wq_6 mh_X10_failed (by decide) rfl (by first | exact Nat.le_of_ble_eq_true rfl | simp [ol_rfc, Value.category]) dX10_askLinks_22 (ol_xi ?_)
    exact ol_iret C hret hlk rfl (by decide) (by decide) dX10_askLinks_25 ⟨rfl, _, rfl, Or.inr ⟨t, none, _, _, _, _, by rw [sp_n3_f c_16], sp_lc_r c_16, rfl, by rw [sp_n3_f c_16]; exact hI1, rfl⟩⟩

set_option maxRecDepth 100000 in
set_option maxHeartbeats 4000000 in
theorem m_askValue (l : Launch) (D : va_G) (cA : Nat → ClassId) {ro : Nat → Nat} {I : Nat → Nat → Int32} {F : Nat → Nat → Option Nat} {ad ta pa : Nat → Nat} {g n : Nat} {So : Nat → Nat} {T : Nat → Nat → Int32} {P : Nat → Nat → Option Nat} (hV : ol_V n So T P) (hg : g ∈ [50, 60]) {I0 : Nat → Nat → Int32} {F0 : Nat → Nat → Option Nat} {b : ol_B} {k M t : Nat} (h : ol_XI ro ad ta pa g n So T P I0 F0 I F b k (k + 1)) (hB : ol_BW n So b M) (hk40 : k < 40) (ht : t < n) (hnb : ¬ So t = 2)  : ol_M l D cA yX10_askValue cX10_askValue 4 (some FieldType.boolean) (ol_r 3 0 0) [.ref (ad 1), .int (nI k), .ref (ta t)] ro I F (fun v ro' I' F' => ro' = ro ∧ F' = F ∧ ∃ w, v = some (.int w) ∧ ((sp_vc So T t = 0 ∧ w = 1 ∧ ol_XI ro ad ta pa g n So T P I0 F0 I' F (va_up b.1 t (b.1 t + 1), b.2.1, ol_u2 b.2.2.1 0 k (sp_vv So T t), b.2.2.2) (k + 1) (k + 1)) ∨ (¬ sp_vc So T t = 0 ∧ w = 0 ∧ ∃ I2, ol_XI ro ad ta pa g n So T P I0 F0 I2 F (sp_ask b t) k (k + 1) ∧ I' = ol_xr I2 ad (nI t) (-1000009) (sp_vc So T t)))) := by
  refine ol_M.of (by decide +kernel) (Nat.le_of_ble_eq_true rfl) (by simp [Value.category, ol_rfc]) ?_
  intro p e s m args below meth c C hret hlk hin
  have hL := h.1
  have hb := h.2.1
  have hx1 : ol_is ro (ad 1) (.inl 0) := hL.is 1 (by decide) (by decide) rfl
  have hxt := (h.2.2.1.2.1 t ht).2
  have hth := hxt.th (hV.2 t ht).1
  have hxg : ol_is ro (ad g) (.inl 8) := by rcases ol_5060 hg with rfl | rfl <;> exact hL.is _ (by decide) (by decide) rfl
  have f3 : F (ad g) 2 = some (ad (g + 3)) := by rw [show g + 3 = g + 1 + 2 by omega]; exact hL.gf g 2 hg (by decide)
  have i3 : ol_is ro (ad (g + 3)) (.inr (0, 40)) := by rcases ol_5060 hg with rfl | rfl <;> exact hL.is _ (by decide) (by decide) rfl
  refine ol_aload_n C dX10_askValue_0 rfl rfl (by first | exact ol_isq_r _ | exact ol_isq_q _ | exact ol_isq_n) ?_
  refine ol_dup C dX10_askValue_1 (by first | rfl | exact ol_rfc _) ?_
  refine ol_tgI C hth ol_tf6 wd_166 (.inr wd_167) dX10_askValue_2 ?_
  refine ol_ti (h.asked ht) ?_
  refine ol_iconst (v := 1) C dX10_askValue_5 (by decide) ?_
  refine ol_iadd C dX10_askValue_6 ?_
  refine ol_tpI C hth ol_tf6 wd_166 (.inr wd_167) rfl rfl dX10_askValue_7 ?_
  have hI1 := h.ask hV hg ht
  refine ol_aload_n C dX10_askValue_10 rfl rfl (by first | exact ol_isq_r _ | exact ol_isq_q _ | exact ol_isq_n) ?_
  refine dv_valueCause_Node C hI1.2.2.1 (hV.up4 _) ht hnb wd_381 (by decide) (by simp [Value.category]) dX10_askValue_11 ?_
  refine ol_ti (y := sp_vc So T t) rfl ?_
  refine ol_istore_n C dX10_askValue_14 rfl (by decide) ?_
  refine ol_iload_n C dX10_askValue_15 rfl rfl ?_
  refine ol_if_eq (tgt := 26) C dX10_askValue_16 (by decide) (fun c_16 => ?_) (fun c_16 => ?_)
  · refine ol_aload_n C dX10_askValue_26 rfl rfl (by first | exact ol_isq_r _ | exact ol_isq_q _ | exact ol_isq_n) ?_
    refine ol_gR (k := 3) C (by assumption) rfl rfl wd_89 (.inl rfl) dX10_askValue_27 ?_
    refine ol_rf (by assumption) ?_
    refine ol_gR (k := 2) C (by assumption) rfl rfl wd_41 (.inl rfl) dX10_askValue_30 ?_
    refine ol_rf (by assumption) ?_
    refine ol_iload_n C dX10_askValue_33 rfl rfl ?_
    refine ol_aload_n C dX10_askValue_34 rfl rfl (by first | exact ol_isq_r _ | exact ol_isq_q _ | exact ol_isq_n) ?_
    refine dv_toldValue_Node C hI1.2.2.1 (hV.up4 _) ht hnb wd_394 (by decide) (by simp [Value.category]) dX10_askValue_35 ?_
    refine ol_ti (y := sp_vv So T t) rfl ?_
    refine ol_sI k C (by assumption) rfl hk40 (by decide) dX10_askValue_38 ?_
    refine ol_iconst (v := 1) C dX10_askValue_39 (by decide) ?_
    exact ol_iret C hret hlk rfl (by decide) (by decide) dX10_askValue_40 ⟨rfl, rfl, _, rfl, Or.inl ⟨c_16, rfl, hI1.col hV hg (sp_vv So T t)⟩⟩
  · refine ol_aload_n C dX10_askValue_19 rfl rfl (by first | exact ol_isq_r _ | exact ol_isq_q _ | exact ol_isq_n) ?_
    refine ol_aload_n C dX10_askValue_20 rfl rfl (by first | exact ol_isq_r _ | exact ol_isq_q _ | exact ol_isq_n) ?_
    refine ol_iload_n C dX10_askValue_21 rfl rfl ?_
    refine ol_callV C (m_failed l D cA hL hth (hI1.2.2.1.2.1 t ht).2.2.1 (sp_vc So T t)) hx1.1 hx1.2 rfl wd_365 wd_1 wd_362 wd_364 wq_6 mh_X10_failed (by decide) rfl (by first | exact Nat.le_of_ble_eq_true rfl | simp [ol_rfc, Value.category]) dX10_askValue_22 (ol_xi ?_)
    exact ol_iret C hret hlk rfl (by decide) (by decide) dX10_askValue_25 ⟨rfl, rfl, _, rfl, Or.inr ⟨c_16, rfl, _, hI1, rfl⟩⟩

set_option maxRecDepth 100000 in
set_option maxHeartbeats 4000000 in
theorem lp_xk {p : Program} {l : Launch} {e : Env} {R : Room} {s : State} {m : MethodId} {args : Array Value} {below : List Frame} {meth : Method} {c : Code} {D : va_G} {cA : Nat → ClassId} {A : Nat → Prop} {Q : State → Prop} {ro : Nat → Nat} {F : Nat → Nat → Option Nat} {cells slots : Nat} (C : ol_Cx p s m args c cX10_askKey 7 yX10_askKey.cls D cA A) {ad ta pa : Nat → Nat} {g n : Nat} {So : Nat → Nat} {T : Nat → Nat → Int32} {P : Nat → Nat → Option Nat} (hV : ol_V n So T P) (hg : g ∈ [50, 60]) {I0 : Nat → Nat → Int32} {F0 : Nat → Nat → Option Nat} {I : Nat → Nat → Int32} {b : ol_B} {kc kf k t M : Nat} (hI : ol_XI ro ad ta pa g n So T P I0 F0 I F b kc kf) (hB : ol_BW n So b M) (hk : k ≤ b.2.1 0 0) (hk40 : k < 40) (hR2 : ol_rm R (ol_r 2 0 0) 2 cells slots) {Rs : Option Nat} (ex : Rs = none → ol_W p l e R s m args below meth c D cA A Q 7 ro I F cells slots 86 [some (.ref (ad 1)), none, none, none, none, none, none] []) (ex2 : ∀ j, Rs = some j → j < k → ol_W p l e R s m args below meth c D cA A Q 7 ro I F cells slots 63 [some (.ref (ad 1)), none, some (.ref (ta t)), none, none, none, some (.ref (ta (b.2.1 1 j)))] []) : ∀ (d j : Nat) (x6 : Option Value), j + d = k → sp_dk T (b.2.1 1) t d j = Rs → ol_W p l e R s m args below meth c D cA A Q 7 ro I F cells slots 35 [some (.ref (ad 1)), some (.int (nI k)), some (.ref (ta t)), none, some (.int (T 1 t)), some (.int (nI j)), x6] [] := by
  have hL := hI.1
  have hb := hI.2.1
  have hx1 : ol_is ro (ad 1) (.inl 0) := hL.is 1 (by decide) (by decide) rfl
  have hxg : ol_is ro (ad g) (.inl 8) := by rcases ol_5060 hg with rfl | rfl <;> exact hL.is _ (by decide) (by decide) rfl
  have f1 : F (ad g) 0 = some (ad (g + 1)) := by rw [show g + 1 = g + 1 + 0 by omega]; exact hL.gf g 0 hg (by decide)
  have i1 : ol_is ro (ad (g + 1)) (.inr (3, 40)) := by rcases ol_5060 hg with rfl | rfl <;> exact hL.is _ (by decide) (by decide) rfl
  intro d
  induction d with
  | zero =>
    intro j x6 hm hR
    have hk6 : j = k := by omega
    subst hk6
    refine ol_iload C dX10_askKey_35 rfl ?_
    refine ol_iload_n C dX10_askKey_37 rfl rfl ?_
    refine ol_icmp_ge (tgt := 86) C dX10_askKey_38 (by decide) (fun c_38 => ?_) (fun c_38 => absurd (Int32.le_refl (nI j)) c_38)
    refine ol_lv (lv' := [some (.ref (ad 1)), none, none, none, none, none, none]) (by intro i v h; rcases i with _|_|_|_|_|_|_|i <;> first | exact h | (simp at h)) (ex hR.symm)
  | succ d ih =>
    intro j x6 hm hR
    have hmk : j < k := by omega
    obtain ⟨hjn, hjb, -⟩ := hB.2.1 j (by omega)
    refine ol_iload C dX10_askKey_35 rfl ?_
    refine ol_iload_n C dX10_askKey_37 rfl rfl ?_
    refine ol_icmp_ge (tgt := 86) C dX10_askKey_38 (by decide) (fun c_38 => absurd c_38 (nI_ge hmk (by omega))) (fun c_38 => ?_)
    refine ol_aload_n C dX10_askKey_41 rfl rfl (by first | exact ol_isq_r _ | exact ol_isq_q _ | exact ol_isq_n) ?_
    refine ol_gR (k := 3) C (by assumption) rfl rfl wd_89 (.inl rfl) dX10_askKey_42 ?_
    refine ol_rf (by assumption) ?_
    refine ol_gR (k := 0) C (by assumption) rfl rfl wd_37 (.inl rfl) dX10_askKey_45 ?_
    refine ol_rf (by assumption) ?_
    refine ol_iload C dX10_askKey_48 rfl ?_
    refine ol_lN j C (by assumption) rfl (by omega) (by decide) dX10_askKey_50 ?_
    refine ol_rf (hI.2.2.2.1.2.2.2.1 j (by omega)) ?_
    refine ol_astore C dX10_askKey_51 (by decide) (by first | exact ol_isq_r _ | exact ol_isq_q _ | exact ol_isq_n) ?_
    refine ol_aload C dX10_askKey_53 rfl (by first | exact ol_isq_r _ | exact ol_isq_q _ | exact ol_isq_n) ?_
    refine dv_toldKey_Node C hI.2.2.1 (hV.up4 _) hjn hjb wd_366 hR2 (by simp [Value.category]) dX10_askKey_55 ?_
    refine ol_ti (y := T 1 (b.2.1 1 j)) rfl ?_
    refine ol_iload C dX10_askKey_58 rfl ?_
    refine ol_icmp_ne (tgt := 80) C dX10_askKey_60 (by decide) (fun c_60 => ?_) (fun c_60 => ?_)
    · refine ol_iincN C dX10_askKey_80 rfl (by decide) ?_
      refine ol_goto (tgt := 35) C dX10_askKey_83 (by decide) ?_
      exact ih (j + 1) _ (by omega) (by rw [← hR, sp_dk, ol_if_f c_60])
    · refine ol_lv (lv' := [some (.ref (ad 1)), none, some (.ref (ta t)), none, none, none, some (.ref (ta (b.2.1 1 j)))]) (by intro i v h; rcases i with _|_|_|_|_|_|_|i <;> first | exact h | (simp at h)) ?_
      exact ex2 j (by rw [← hR, sp_dk, ol_if_t c_60]) hmk

set_option maxRecDepth 100000 in
set_option maxHeartbeats 4000000 in
theorem m_askKey (l : Launch) (D : va_G) (cA : Nat → ClassId) {ro : Nat → Nat} {I : Nat → Nat → Int32} {F : Nat → Nat → Option Nat} {ad ta pa : Nat → Nat} {g n : Nat} {So : Nat → Nat} {T : Nat → Nat → Int32} {P : Nat → Nat → Option Nat} (hV : ol_V n So T P) (hg : g ∈ [50, 60]) {I0 : Nat → Nat → Int32} {F0 : Nat → Nat → Option Nat} {b : ol_B} {kc k M t : Nat} (h : ol_XI ro ad ta pa g n So T P I0 F0 I F b kc (k + 1)) (hB : ol_BW n So b M) (hk40 : k < 40) (ht : t < n) (hnb : ¬ So t = 2) (hk : k ≤ b.2.1 0 0) : ol_M l D cA yX10_askKey cX10_askKey 7 (some FieldType.boolean) (ol_r 3 0 0) [.ref (ad 1), .int (nI k), .ref (ta t)] ro I F (fun v ro' I' F' => ro' = ro ∧ F' = F ∧ ∃ w, v = some (.int w) ∧ ((sp_kc So T t = 0 ∧ sp_dk T (b.2.1 1) t k 0 = none ∧ w = 1 ∧ ol_XI ro ad ta pa g n So T P I0 F0 I' F (sp_ask b t) kc (k + 1)) ∨ ∃ (o : Option Nat) (z : Int32) (I2 : Nat → Nat → Int32), w = 0 ∧ ol_XI ro ad ta pa g n So T P I0 F0 I2 F (sp_ask b t) kc (k + 1) ∧ I' = ol_xr I2 ad (nI t) (ol_e o) z ∧ ((¬ sp_kc So T t = 0 ∧ o = none ∧ z = sp_kc So T t) ∨ (sp_kc So T t = 0 ∧ ∃ j, sp_dk T (b.2.1 1) t k 0 = some j ∧ o = some (b.2.1 1 j) ∧ z = 6)))) := by
  refine ol_M.of (by decide +kernel) (Nat.le_of_ble_eq_true rfl) (by simp [Value.category, ol_rfc]) ?_
  intro p e s m args below meth c C hret hlk hin
  have hL := h.1
  have hb := h.2.1
  have hx1 : ol_is ro (ad 1) (.inl 0) := hL.is 1 (by decide) (by decide) rfl
  have hxt := (h.2.2.1.2.1 t ht).2
  have hth := hxt.th (hV.2 t ht).1
  have hxg : ol_is ro (ad g) (.inl 8) := by rcases ol_5060 hg with rfl | rfl <;> exact hL.is _ (by decide) (by decide) rfl
  have f1 : F (ad g) 0 = some (ad (g + 1)) := by rw [show g + 1 = g + 1 + 0 by omega]; exact hL.gf g 0 hg (by decide)
  have i1 : ol_is ro (ad (g + 1)) (.inr (3, 40)) := by rcases ol_5060 hg with rfl | rfl <;> exact hL.is _ (by decide) (by decide) rfl
  refine ol_aload_n C dX10_askKey_0 rfl rfl (by first | exact ol_isq_r _ | exact ol_isq_q _ | exact ol_isq_n) ?_
  refine ol_dup C dX10_askKey_1 (by first | rfl | exact ol_rfc _) ?_
  refine ol_tgI C hth ol_tf6 wd_166 (.inr wd_167) dX10_askKey_2 ?_
  refine ol_ti (h.asked ht) ?_
  refine ol_iconst (v := 1) C dX10_askKey_5 (by decide) ?_
  refine ol_iadd C dX10_askKey_6 ?_
  refine ol_tpI C hth ol_tf6 wd_166 (.inr wd_167) rfl rfl dX10_askKey_7 ?_
  have hI1 := h.ask hV hg ht
  refine ol_aload_n C dX10_askKey_10 rfl rfl (by first | exact ol_isq_r _ | exact ol_isq_q _ | exact ol_isq_n) ?_
  refine dv_keyCause_Node C hI1.2.2.1 (hV.up4 _) ht hnb wd_349 (by decide) (by simp [Value.category]) dX10_askKey_11 ?_
  refine ol_ti (y := sp_kc So T t) rfl ?_
  refine ol_istore_n C dX10_askKey_14 rfl (by decide) ?_
  refine ol_iload_n C dX10_askKey_15 rfl rfl ?_
  refine ol_if_eq (tgt := 26) C dX10_askKey_16 (by decide) (fun c_16 => ?_) (fun c_16 => ?_)
  · refine ol_aload_n C dX10_askKey_26 rfl rfl (by first | exact ol_isq_r _ | exact ol_isq_q _ | exact ol_isq_n) ?_
    refine dv_toldKey_Node C hI1.2.2.1 (hV.up4 _) ht hnb wd_366 (by decide) (by simp [Value.category]) dX10_askKey_27 ?_
    refine ol_ti (y := T 1 t) rfl ?_
    refine ol_istore C dX10_askKey_30 (by decide) ?_
    refine ol_iconst (v := 0) C dX10_askKey_32 (by decide) ?_
    refine ol_istore C dX10_askKey_33 (by decide) ?_
    refine ol_lv (lv' := [some (.ref (ad 1)), some (.int (nI k)), some (.ref (ta t)), none, some (.int (T 1 t)), some (.int (nI 0)), none]) (by intro i v h; rcases i with _|_|_|_|_|_|_|i <;> first | exact h | (simp at h)) ?_
    refine lp_xk C hV hg (t := t) (k := k) (Rs := sp_dk T (b.2.1 1) t k 0) hI1 (hB.ask t) hk hk40 (by decide) (fun hR => ?_) (fun j hR hj => ?_) k 0 none (by omega) rfl
    · refine ol_iconst (v := 1) C dX10_askKey_86 (by decide) ?_
      exact ol_iret C hret hlk rfl (by decide) (by decide) dX10_askKey_87 ⟨rfl, rfl, _, rfl, Or.inl ⟨c_16, hR, rfl, hI1⟩⟩
    · obtain ⟨hjn, hjb, -⟩ := hB.2.1 j (by omega)
      have hxj := (hI1.2.2.1.2.1 (b.2.1 1 j) hjn).2
      have hthj := hxj.th (hV.2 _ hjn).1
      refine ol_aload_n C dX10_askKey_63 rfl rfl (by first | exact ol_isq_r _ | exact ol_isq_q _ | exact ol_isq_n) ?_
      refine ol_aload_n C dX10_askKey_64 rfl rfl (by first | exact ol_isq_r _ | exact ol_isq_q _ | exact ol_isq_n) ?_
      refine ol_tgI C hth ol_tf0 wd_136 (.inr wd_135) dX10_askKey_65 ?_
      refine ol_ti ((hI1.2.2.1.2.1 t ht).2.2.1) ?_
      refine ol_aload C dX10_askKey_68 rfl (by first | exact ol_isq_r _ | exact ol_isq_q _ | exact ol_isq_n) ?_
      refine ol_tgI C hthj ol_tf0 wd_136 (.inr wd_135) dX10_askKey_70 ?_
      refine ol_ti hxj.2.1 ?_
      refine ol_bipush (v := 6) C dX10_askKey_73 (by decide) ?_
      refine ol_callV C (m_endLoad l D cA hx1 (nI t) (nI (b.2.1 1 j)) 6) hx1.1 hx1.2 rfl wd_332 wd_1 wd_329 wd_331 wq_3 mh_X10_endLoad (by decide) rfl (by first | exact Nat.le_of_ble_eq_true rfl | simp [ol_rfc, Value.category]) dX10_askKey_75 (ol_xv ?_)
      refine ol_iconst (v := 0) C dX10_askKey_78 (by decide) ?_
      exact ol_iret C hret hlk rfl (by decide) (by decide) dX10_askKey_79 ⟨rfl, rfl, _, rfl, Or.inr ⟨some (b.2.1 1 j), 6, _, rfl, hI1, rfl, Or.inr ⟨c_16, j, hR, rfl, rfl⟩⟩⟩
  · refine ol_aload_n C dX10_askKey_19 rfl rfl (by first | exact ol_isq_r _ | exact ol_isq_q _ | exact ol_isq_n) ?_
    refine ol_aload_n C dX10_askKey_20 rfl rfl (by first | exact ol_isq_r _ | exact ol_isq_q _ | exact ol_isq_n) ?_
    refine ol_iload_n C dX10_askKey_21 rfl rfl ?_
    refine ol_callV C (m_failed l D cA hL hth (hI1.2.2.1.2.1 t ht).2.2.1 (sp_kc So T t)) hx1.1 hx1.2 rfl wd_365 wd_1 wd_362 wd_364 wq_6 mh_X10_failed (by decide) rfl (by first | exact Nat.le_of_ble_eq_true rfl | simp [ol_rfc, Value.category]) dX10_askKey_22 (ol_xi ?_)
    exact ol_iret C hret hlk rfl (by decide) (by decide) dX10_askKey_25 ⟨rfl, rfl, _, rfl, Or.inr ⟨none, sp_kc So T t, _, rfl, hI1, rfl, Or.inl ⟨c_16, rfl, rfl⟩⟩⟩
