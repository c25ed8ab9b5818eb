theorem ol_XI_init {ro : Nat → Nat} {I : Nat → Nat → Int32} {F : Nat → Nat → Option Nat} {ad ta pa : Nat → Nat} {g n : Nat} {So : Nat → Nat} {T : Nat → Nat → Int32} {P : Nat → Nat → Option Nat} (hV : ol_V n So T P) (hg : g ∈ [50, 60]) (hL : ol_L ro F ad) (hb : F (ad 1) 3 = some (ad g)) (hT : ol_XT ro I F ad ta pa n So T P) (h0 : I (ad (g + 4)) 0 = 0) : ol_XI ro ad ta pa g n So T P I F (ol_u2 (ol_u2 (ol_u2 (va_up I (ad (g + 2)) (ol_fi (I (ad (g + 2))) 40 (-1000009))) (ad g) 9 0) (ad g) 10 0) (ad g) 11 0) F (sp_b0 T) 0 1 := by
  have N : ∀ {i j : Nat}, i ≤ 9 → j ≤ 9 → i ≠ j → ad (g + i) ≠ ad (g + j) := fun hi hj h => hL.ne (ol_gu hg hi) (ol_gu hg hj) (by omega)
  have K : ∀ a, a ≠ ad g → a ≠ ad (g + 2) → ol_u2 (ol_u2 (ol_u2 (va_up I (ad (g + 2)) (ol_fi (I (ad (g + 2))) 40 (-1000009))) (ad g) 9 0) (ad g) 10 0) (ad g) 11 0 a = I a := by
    intro a h1 h2
    rw [ol_u2_a _ _ h1, ol_u2_a _ _ h1, ol_u2_a _ _ h1, va_up_ne _ _ h2]
  have hg1 : g ≠ 1 ∧ g + 2 ≠ 1 := by rcases ol_5060 hg with rfl | rfl <;> decide
  have h4 := K (ad (g + 4)) (N (i := 4) (j := 0) (by decide) (by decide) (by decide)) (N (i := 4) (j := 2) (by decide) (by decide) (by decide))
  refine ⟨hL, hb, ?_, ?_, by rw [h4]; exact h0, ?_⟩
  · show ol_XT _ _ _ _ _ _ _ _ (va_up T 4 (T 4)) _
    rw [va_up_id]
    refine hT.cg ?_ (fun t ht => K _ (hT.nta hL hV ht (ol_gu (j := 0) hg (by decide))) (hT.nta hL hV ht (ol_gu hg (by decide)))) rfl (fun t ht => ⟨rfl, rfl⟩)
    rw [K _ (hL.ne (by decide) (ol_gu (j := 0) hg (by decide)) (Ne.symm hg1.1)) (hL.ne (by decide) (ol_gu (j := 2) hg (by decide)) (Ne.symm hg1.2))]
  · refine ⟨?_, ?_, ?_, fun k hk => absurd hk (Nat.not_lt_zero k), fun t ht => ?_, fun k hk => absurd hk (Nat.not_lt_zero k), fun k hk => ?_, fun a ha => absurd ha (Nat.not_lt_zero a)⟩
    · show ol_u2 (ol_u2 (ol_u2 (va_up I (ad (g + 2)) (ol_fi (I (ad (g + 2))) 40 (-1000009))) (ad g) 9 0) (ad g) 10 0) (ad g) 11 0 (ad g) 9 = nI 0
      rw [ol_u2_k _ _ (by decide), ol_u2_k _ _ (by decide), ol_u2_s]
      rfl
    · show ol_u2 (ol_u2 (ol_u2 (va_up I (ad (g + 2)) (ol_fi (I (ad (g + 2))) 40 (-1000009))) (ad g) 9 0) (ad g) 10 0) (ad g) 11 0 (ad g) 10 = nI 0
      rw [ol_u2_k _ _ (by decide), ol_u2_s]
      rfl
    · show ol_u2 (ol_u2 (ol_u2 (va_up I (ad (g + 2)) (ol_fi (I (ad (g + 2))) 40 (-1000009))) (ad g) 9 0) (ad g) 10 0) (ad g) 11 0 (ad g) 11 = nI 0
      rw [ol_u2_s]
      rfl
    · show ol_u2 (ol_u2 (ol_u2 (va_up I (ad (g + 2)) (ol_fi (I (ad (g + 2))) 40 (-1000009))) (ad g) 9 0) (ad g) 10 0) (ad g) 11 0 (ad (g + 2)) t = -1000009
      have d20 : ad (g + 2) ≠ ad g := N (i := 2) (j := 0) (by decide) (by decide) (by decide)
      rw [ol_u2_a _ _ d20, ol_u2_a _ _ d20, ol_u2_a _ _ d20, va_up_self, ol_fi_lt ht]
    · have hk0 : k = 0 := by omega
      subst hk0
      show ol_u2 (ol_u2 (ol_u2 (va_up I (ad (g + 2)) (ol_fi (I (ad (g + 2))) 40 (-1000009))) (ad g) 9 0) (ad g) 10 0) (ad g) 11 0 (ad (g + 4)) 0 = nI 0
      rw [h4, h0]
      rfl
  · exact ⟨fun a k h1 h2 => by rw [K a (h1 0 (by decide)) (h1 2 (by decide))], fun a ha => rfl⟩
section OLS5
variable {n : Nat} {So : Nat → Nat} {T : Nat → Nat → Int32} {P : Nat → Nat → Option Nat} {byK : Prop} {d k : Nat} {b : ol_B}
theorem sp_ld_s (hlt : k < b.2.1 0 0) (h : (sp_nd So T P byK k b).2 = none) : sp_ld So T P byK (d + 1) k b = sp_ld So T P byK d (k + 1) (sp_nd So T P byK k b).1 := by
  rw [sp_ld, ol_if_t hlt]
  revert h
  cases sp_nd So T P byK k b with
  | mk b5 f5 =>
    intro h
    dsimp only at h
    subst h
    rfl
theorem sp_ld_f {q : Nat × Option Nat × Int32} (hlt : k < b.2.1 0 0) (h : (sp_nd So T P byK k b).2 = some q) : sp_ld So T P byK (d + 1) k b = ((sp_nd So T P byK k b).1, some q) := by
  rw [sp_ld, ol_if_t hlt]
  revert h
  cases sp_nd So T P byK k b with
  | mk b5 f5 =>
    intro h
    dsimp only at h
    subst h
    rfl
theorem sp_ld_e (hlt : ¬ k < b.2.1 0 0) : sp_ld So T P byK (d + 1) k b = (b, none) := by
  rw [sp_ld, ol_if_f hlt]
end OLS5

set_option maxRecDepth 100000 in
set_option maxHeartbeats 4000000 in
theorem tl_xb {p : Program} {l : Launch} {e : Env} {R : Room} {s : State} {m : MethodId} {args : Array Value} {below : List Frame} {meth : Method} {c : Code} {D : va_G} {cA : Nat → ClassId} {A : Nat → Prop} {Q : State → Prop} {ro : Nat → Nat} {cells slots : Nat} (C : ol_Cx p s m args c cX10_build 6 yX10_build.cls D cA A) {ad ta pa : Nat → Nat} {g n : Nat} {So : Nat → Nat} {T : Nat → Nat → Int32} {P : Nat → Nat → Option Nat} (hV : ol_V n So T P) (hg : g ∈ [50, 60]) {I0 : Nat → Nat → Int32} {F0 : Nat → Nat → Option Nat} {I : Nat → Nat → Int32} {F : Nat → Nat → Option Nat} {b : ol_B} {k t M : Nat} {bk : Int32} {x5 : Option Value} (hI : ol_XI ro ad ta pa g n So T P I0 F0 I F b k (k + 1)) (hB : ol_BW n So b M) (hM : M + 6 ≤ 240) (hk40 : k < 40) (ht : t < n) (hnb : ¬ So t = 2) (hR4 : ol_rm R (ol_r 4 0 0) 7 cells slots) (exA : ∀ (I : Nat → Nat → Int32) (F : Nat → Nat → Option Nat), ol_XI ro ad ta pa g n So T P I0 F0 I F (sp_n2 So T P k t b).1 (k + 1) (k + 1 + 1) → (sp_n2 So T P k t b).2 = none → ol_W p l e R s m args below meth c D cA A Q 6 ro I F cells slots 94 [some (.ref (ad 1)), none, some (.int bk), some (.int (nI k)), none, none] []) (exB : ∀ (I : Nat → Nat → Int32) (F : Nat → Nat → Option Nat) (u : Nat) (o : Option Nat) (z : Int32) (kc kf : Nat), (sp_n2 So T P k t b).2 = some (u, o, z) → (z = 1 ∨ z = 2 ∨ z = 3 ∨ z = 4 ∨ z = 6) → ol_XI ro ad ta pa g n So T P I0 F0 I F (sp_n2 So T P k t b).1 kc kf → ol_W p l e R s m args below meth c D cA A Q 6 ro (ol_xr I ad (nI u) (ol_e o) z) F cells slots 92 [some (.ref (ad 1)), none, none, none, none, none] []) : ol_W p l e R s m args below meth c D cA A Q 6 ro I F cells slots 60 [some (.ref (ad 1)), none, some (.int bk), some (.int (nI k)), some (.ref (ta t)), x5] [] := by
  have hx1 : ol_is ro (ad 1) (.inl 0) := hI.1.is 1 (by decide) (by decide) rfl
  refine ol_aload_n C dX10_build_60 rfl rfl (by first | exact ol_isq_r _ | exact ol_isq_q _ | exact ol_isq_n) ?_
  refine ol_iload_n C dX10_build_61 rfl rfl ?_
  refine ol_aload C dX10_build_62 rfl (by first | exact ol_isq_r _ | exact ol_isq_q _ | exact ol_isq_n) ?_
  refine ol_callV C (m_askValue l D cA hV hg hI hB hk40 ht hnb) hx1.1 hx1.2 rfl wd_380 wd_1 wd_377 wd_379 wq_7 mh_X10_askValue (ol_rm_le hR4 (by decide) (by decide)) rfl (by first | exact Nat.le_of_ble_eq_true rfl | simp [ol_rfc, Value.category]) dX10_build_64 (fun v_64 ro_64 I_64 F_64 hh_64 => ?_)
  obtain ⟨rfl, rfl, w, rfl, hw⟩ := hh_64
  rcases hw with ⟨hv0, rfl, h2⟩ | ⟨hv0, rfl, I2, h2, rfl⟩
  · have eR : sp_n2 So T P k t b = sp_n3 So T P k t (va_up b.1 t (b.1 t + 1), b.2.1, ol_u2 b.2.2.1 0 k (sp_vv So T t), b.2.2.2) := by
      unfold sp_n2
      rw [ol_if_t hv0]
    refine ol_st (st' := [.int _]) rfl ?_
    refine ol_if_eq (tgt := 84) C dX10_build_67 (by decide) (fun c_67 => absurd c_67 (by decide)) (fun c_67 => ?_)
    refine ol_aload_n C dX10_build_70 rfl rfl (by first | exact ol_isq_r _ | exact ol_isq_q _ | exact ol_isq_n) ?_
    refine ol_iload_n C dX10_build_71 rfl rfl ?_
    refine ol_aload C dX10_build_72 rfl (by first | exact ol_isq_r _ | exact ol_isq_q _ | exact ol_isq_n) ?_
    refine ol_callV C (m_askLinks l D cA hV hg h2 (show ol_BW n So _ M from hB) hk40 ht hnb hM) hx1.1 hx1.2 rfl wd_417 wd_1 wd_414 wd_416 wq_8 mh_X10_askLinks (ol_rm_le hR4 (by decide) (by decide)) rfl (by first | exact Nat.le_of_ble_eq_true rfl | simp [ol_rfc, Value.category]) dX10_build_74 (fun v_74 ro_74 I_74 F_74 hh_74 => ?_)
    obtain ⟨rfl, w, rfl, hw⟩ := hh_74
    rcases hw with ⟨h1, rfl, h3⟩ | ⟨u, o, z, I3, kc, kf, h1, hz, rfl, h3, rfl⟩
    · refine ol_st (st' := [.int _]) rfl ?_
      refine ol_if_eq (tgt := 84) C dX10_build_77 (by decide) (fun c_77 => absurd c_77 (by decide)) (fun c_77 => ?_)
      refine ol_iconst (v := 1) C dX10_build_80 (by decide) ?_
      refine ol_goto (tgt := 85) C dX10_build_81 (by decide) ?_
      refine ol_istore C dX10_build_85 (by decide) ?_
      refine ol_iload C dX10_build_87 rfl ?_
      refine ol_if_ne (tgt := 94) C dX10_build_89 (by decide) (fun c_89 => ?_) (fun c_89 => absurd c_89 (by decide))
      refine ol_lv (lv' := [some (.ref (ad 1)), none, some (.int bk), some (.int (nI k)), none, none]) (by intro i v h; rcases i with _|_|_|_|_|_|i <;> first | exact h | (simp at h)) ?_
      exact exA _ _ (by rw [eR]; exact h3) (by rw [eR]; exact h1)
    · refine ol_st (st' := [.int _]) rfl ?_
      refine ol_if_eq (tgt := 84) C dX10_build_77 (by decide) (fun c_77 => ?_) (fun c_77 => absurd rfl c_77)
      refine ol_iconst (v := 0) C dX10_build_84 (by decide) ?_
      refine ol_istore C dX10_build_85 (by decide) ?_
      refine ol_iload C dX10_build_87 rfl ?_
      refine ol_if_ne (tgt := 94) C dX10_build_89 (by decide) (fun c_89 => absurd rfl c_89) (fun c_89 => ?_)
      refine ol_lv (lv' := [some (.ref (ad 1)), none, none, none, none, none]) (by intro i v h; rcases i with _|_|_|_|_|_|i <;> first | exact h | (simp at h)) ?_
      exact exB _ _ u o z _ _ (by rw [eR]; exact h1) hz (by rw [eR]; exact h3)
  · have eR : sp_n2 So T P k t b = (sp_ask b t, some (t, none, sp_vc So T t)) := by
      unfold sp_n2
      rw [ol_if_f hv0]
    refine ol_st (st' := [.int _]) rfl ?_
    refine ol_if_eq (tgt := 84) C dX10_build_67 (by decide) (fun c_67 => ?_) (fun c_67 => absurd rfl c_67)
    refine ol_iconst (v := 0) C dX10_build_84 (by decide) ?_
    refine ol_istore C dX10_build_85 (by decide) ?_
    refine ol_iload C dX10_build_87 rfl ?_
    refine ol_if_ne (tgt := 94) C dX10_build_89 (by decide) (fun c_89 => absurd rfl c_89) (fun c_89 => ?_)
    refine ol_lv (lv' := [some (.ref (ad 1)), none, none, none, none, none]) (by intro i v h; rcases i with _|_|_|_|_|_|i <;> first | exact h | (simp at h)) ?_
    exact exB _ _ t none (sp_vc So T t) _ _ (by rw [eR]) (sp_vc_r hv0) (by rw [eR]; exact h2)

set_option maxRecDepth 100000 in
set_option maxHeartbeats 4000000 in
theorem lp_xb {p : Program} {l : Launch} {e : Env} {R : Room} {s : State} {m : MethodId} {args : Array Value} {below : List Frame} {meth : Method} {c : Code} {D : va_G} {cA : Nat → ClassId} {A : Nat → Prop} {Q : State → Prop} {ro : Nat → Nat} {cells slots : Nat} (C : ol_Cx p s m args c cX10_build 6 yX10_build.cls D cA A) {ad ta pa : Nat → Nat} {g n : Nat} {So : Nat → Nat} {T : Nat → Nat → Int32} {P : Nat → Nat → Option Nat} (hV : ol_V n So T P) (hg : g ∈ [50, 60]) {I0 : Nat → Nat → Int32} {F0 : Nat → Nat → Option Nat} {bk : Int32} {Rs : ol_B × ol_Fl} (hR4 : ol_rm R (ol_r 4 0 0) 7 cells slots) (ex : ∀ (I : Nat → Nat → Int32) (F : Nat → Nat → Option Nat) (b : ol_B) (k : Nat), ol_XI ro ad ta pa g n So T P I0 F0 I F b k (k + 1) → ol_BW n So b (6 * k) → k = b.2.1 0 0 → Rs = (b, none) → ol_W p l e R s m args below meth c D cA A Q 6 ro I F cells slots 100 [some (.ref (ad 1)), none, none, none, none, none] []) (ex2 : ∀ (I : Nat → Nat → Int32) (F : Nat → Nat → Option Nat) (b : ol_B) (u : Nat) (o : Option Nat) (z : Int32) (kc kf : Nat), Rs = (b, some (u, o, z)) → (z = 1 ∨ z = 2 ∨ z = 3 ∨ z = 4 ∨ z = 6) → ol_XI ro ad ta pa g n So T P I0 F0 I F b kc kf → ol_W p l e R s m args below meth c D cA A Q 6 ro (ol_xr I ad (nI u) (ol_e o) z) F cells slots 92 [some (.ref (ad 1)), none, none, none, none, none] []) : ∀ (d k : Nat) (I : Nat → Nat → Int32) (F : Nat → Nat → Option Nat) (b : ol_B), k + d = 41 → ol_XI ro ad ta pa g n So T P I0 F0 I F b k (k + 1) → ol_BW n So b (6 * k) → k ≤ b.2.1 0 0 → sp_ld So T P (¬ bk = 0) d k b = Rs → ol_W p l e R s m args below meth c D cA A Q 6 ro I F cells slots 18 [some (.ref (ad 1)), none, some (.int bk), some (.int (nI k)), none, none] [] := by
  have h40 := hV.1
  intro d
  induction d with
  | zero =>
    intro k I F b hk hI hB hle hR
    exact absurd hB.le (by omega)
  | succ d ih =>
    intro k I F b hk hI hB hle hR
    have hle2 := hB.le
    have hb := hI.2.1
    have hL := hI.1
    have hx1 : ol_is ro (ad 1) (.inl 0) := hL.is 1 (by decide) (by decide) rfl
    have hxg : ol_is ro (ad g) (.inl 8) := by rcases ol_5060 hg with rfl | rfl <;> exact hL.is _ (by decide) (by decide) rfl
    have f1 : F (ad g) 0 = some (ad (g + 1)) := by rw [show g + 1 = g + 1 + 0 by omega]; exact hL.gf g 0 hg (by decide)
    have i1 : ol_is ro (ad (g + 1)) (.inr (3, 40)) := by rcases ol_5060 hg with rfl | rfl <;> exact hL.is _ (by decide) (by decide) rfl
    refine ol_iload_n C dX10_build_18 rfl rfl ?_
    refine ol_bipush (v := 40) C dX10_build_19 (by decide) ?_
    refine ol_icmp_ge (tgt := 100) C dX10_build_21 (by decide) (fun c_21 => ?_) (fun c_21 => ?_)
    · have hge : 40 ≤ k := (nI_leI (a := 40) (by omega) (by omega)).mp c_21
      refine ol_lv (lv' := [some (.ref (ad 1)), none, none, none, none, none]) (by intro i v h; rcases i with _|_|_|_|_|_|i <;> first | exact h | (simp at h)) ?_
      exact ex I F b k hI hB (by omega) (by rw [← hR, sp_ld_e (by omega)])
    · have hk40 : k < 40 := Nat.lt_of_not_le (fun q => c_21 ((nI_leI (a := 40) (by omega) (by omega)).mpr q))
      refine ol_iload_n C dX10_build_24 rfl rfl ?_
      refine ol_aload_n C dX10_build_25 rfl rfl (by first | exact ol_isq_r _ | exact ol_isq_q _ | exact ol_isq_n) ?_
      refine ol_gR (k := 3) C (by assumption) rfl rfl wd_89 (.inl rfl) dX10_build_26 ?_
      refine ol_rf (by assumption) ?_
      refine ol_gI (k := 9) C (by assumption) rfl rfl wd_53 (.inl rfl) dX10_build_29 ?_
      refine ol_ti (show I (ad g) 9 = nI (b.2.1 0 0) from hI.2.2.2.1.1) ?_
      refine ol_icmp_ge (tgt := 100) C dX10_build_32 (by decide) (fun c_32 => ?_) (fun c_32 => ?_)
      · have hge : b.2.1 0 0 ≤ k := (nI_leI (by omega) (by omega)).mp c_32
        refine ol_lv (lv' := [some (.ref (ad 1)), none, none, none, none, none]) (by intro i v h; rcases i with _|_|_|_|_|_|i <;> first | exact h | (simp at h)) ?_
        exact ex I F b k hI hB (by omega) (by rw [← hR, sp_ld_e (by omega)])
      · have hlt : k < b.2.1 0 0 := Nat.lt_of_not_le (fun q => c_32 ((nI_leI (by omega) (by omega)).mpr q))
        obtain ⟨ht, hnb, -⟩ := hB.2.1 k hlt
        obtain ⟨m1, m2, m3, m4, m5, m6⟩ := sp_nd_keep hV (byK := ¬ bk = 0) (M := 6 * k) hlt hB
        refine ol_aload_n C dX10_build_35 rfl rfl (by first | exact ol_isq_r _ | exact ol_isq_q _ | exact ol_isq_n) ?_
        refine ol_gR (k := 3) C (by assumption) rfl rfl wd_89 (.inl rfl) dX10_build_36 ?_
        refine ol_rf (by assumption) ?_
        refine ol_gR (k := 0) C (by assumption) rfl rfl wd_37 (.inl rfl) dX10_build_39 ?_
        refine ol_rf (by assumption) ?_
        refine ol_iload_n C dX10_build_42 rfl rfl ?_
        refine ol_lN k C (by assumption) rfl hk40 (by decide) dX10_build_43 ?_
        refine ol_rf (hI.2.2.2.1.2.2.2.1 k hlt) ?_
        refine ol_astore C dX10_build_44 (by decide) (by first | exact ol_isq_r _ | exact ol_isq_q _ | exact ol_isq_n) ?_
        refine ol_iload_n C dX10_build_46 rfl rfl ?_
        refine ol_if_eq (tgt := 60) C dX10_build_47 (by decide) (fun c_47 => ?_) (fun c_47 => ?_)
        · have eR : sp_nd So T P (¬ bk = 0) k b = sp_n2 So T P k (b.2.1 1 k) b := by
            unfold sp_nd
            rw [ol_if_f (fun q => q c_47)]
          refine ol_lv (lv' := [some (.ref (ad 1)), none, some (.int bk), some (.int (nI k)), some (.ref (ta (b.2.1 1 k))), none]) (by intro i v h; rcases i with _|_|_|_|_|_|i <;> first | exact h | (simp at h)) ?_
          refine tl_xb C hV hg (b := b) (t := b.2.1 1 k) hI hB (by omega) hk40 ht hnb hR4 (fun I5 F5 h5 h6 => ?_) (fun I5 F5 u o z kc kf h5 hz h6 => ?_)
          · rw [← eR] at h5 h6
            refine ol_iincN C dX10_build_94 rfl (by decide) ?_
            refine ol_goto (tgt := 18) C dX10_build_97 (by decide) ?_
            exact ih (k + 1) I5 F5 _ (by omega) h5 (m3.mono (by omega)) (by omega) (by rw [← hR, sp_ld_s hlt h6])
          · rw [← eR] at h5 h6
            exact ex2 I5 F5 _ u o z kc kf (by rw [← hR, sp_ld_f hlt h5]) hz h6
        · refine ol_aload_n C dX10_build_50 rfl rfl (by first | exact ol_isq_r _ | exact ol_isq_q _ | exact ol_isq_n) ?_
          refine ol_iload_n C dX10_build_51 rfl rfl ?_
          refine ol_aload C dX10_build_52 rfl (by first | exact ol_isq_r _ | exact ol_isq_q _ | exact ol_isq_n) ?_
          refine ol_callV C (m_askKey l D cA hV hg hI hB hk40 ht hnb hle) hx1.1 hx1.2 rfl wd_348 wd_1 wd_345 wd_347 wq_5 mh_X10_askKey (ol_rm_le hR4 (by decide) (by decide)) rfl (by first | exact Nat.le_of_ble_eq_true rfl | simp [ol_rfc, Value.category]) dX10_build_54 (fun v_54 ro_54 I_54 F_54 hh_54 => ?_)
          obtain ⟨rfl, rfl, w, rfl, hw⟩ := hh_54
          rcases hw with ⟨hk0, hdk, rfl, h2⟩ | ⟨o, z, I2, rfl, h2, rfl, hz⟩
          · refine ol_st (st' := [.int _]) rfl ?_
            refine ol_if_eq (tgt := 84) C dX10_build_57 (by decide) (fun c_57 => absurd c_57 (by decide)) (fun c_57 => ?_)
            have eR : sp_nd So T P (¬ bk = 0) k b = sp_n2 So T P k (b.2.1 1 k) (sp_ask b (b.2.1 1 k)) := by
              unfold sp_nd
              rw [ol_if_t (show ¬ bk = 0 from c_47), ol_if_t hk0, hdk]
            refine ol_lv (lv' := [some (.ref (ad 1)), none, some (.int bk), some (.int (nI k)), some (.ref (ta (b.2.1 1 k))), none]) (by intro i v h; rcases i with _|_|_|_|_|_|i <;> first | exact h | (simp at h)) ?_
            refine tl_xb C hV hg (b := sp_ask b (b.2.1 1 k)) (t := b.2.1 1 k) h2 (hB.ask _) (by omega) hk40 ht hnb hR4 (fun I5 F5 h5 h6 => ?_) (fun I5 F5 u o z kc kf h5 hz h6 => ?_)
            · rw [← eR] at h5 h6
              refine ol_iincN C dX10_build_94 rfl (by decide) ?_
              refine ol_goto (tgt := 18) C dX10_build_97 (by decide) ?_
              exact ih (k + 1) I5 F5 _ (by omega) h5 (m3.mono (by omega)) (by omega) (by rw [← hR, sp_ld_s hlt h6])
            · rw [← eR] at h5 h6
              exact ex2 I5 F5 _ u o z kc kf (by rw [← hR, sp_ld_f hlt h5]) hz h6
          · refine ol_st (st' := [.int _]) rfl ?_
            refine ol_if_eq (tgt := 84) C dX10_build_57 (by decide) (fun c_57 => ?_) (fun c_57 => absurd rfl c_57)
            refine ol_iconst (v := 0) C dX10_build_84 (by decide) ?_
            refine ol_istore C dX10_build_85 (by decide) ?_
            refine ol_iload C dX10_build_87 rfl ?_
            refine ol_if_ne (tgt := 94) C dX10_build_89 (by decide) (fun c_89 => absurd rfl c_89) (fun c_89 => ?_)
            refine ol_lv (lv' := [some (.ref (ad 1)), none, none, none, none, none]) (by intro i v h; rcases i with _|_|_|_|_|_|i <;> first | exact h | (simp at h)) ?_
            rcases hz with ⟨hk0, rfl, rfl⟩ | ⟨hk0, j, hdk, rfl, rfl⟩
            · have eR : sp_nd So T P (¬ bk = 0) k b = (sp_ask b (b.2.1 1 k), some (b.2.1 1 k, none, sp_kc So T (b.2.1 1 k))) := by
                unfold sp_nd
                rw [ol_if_t (show ¬ bk = 0 from c_47), ol_if_f hk0]
              refine ex2 _ _ (sp_nd So T P (¬ bk = 0) k b).1 _ _ _ _ _ (by rw [← hR, sp_ld_f hlt (q := (b.2.1 1 k, none, sp_kc So T (b.2.1 1 k))) (by rw [eR])]) (sp_kc_r hk0) (by rw [eR]; exact h2)
            · have eR : sp_nd So T P (¬ bk = 0) k b = (sp_ask b (b.2.1 1 k), some (b.2.1 1 k, some (b.2.1 1 j), 6)) := by
                unfold sp_nd
                rw [ol_if_t (show ¬ bk = 0 from c_47), ol_if_t hk0, hdk]
              refine ex2 _ _ (sp_nd So T P (¬ bk = 0) k b).1 _ _ _ _ _ (by rw [← hR, sp_ld_f hlt (q := (b.2.1 1 k, some (b.2.1 1 j), 6)) (by rw [eR])]) (by simp) (by rw [eR]; exact h2)

set_option maxRecDepth 100000 in
set_option maxHeartbeats 4000000 in
theorem m_build (l : Launch) (D : va_G) (cA : Nat → ClassId) {ro : Nat → Nat} {I : Nat → Nat → Int32} {F : Nat → Nat → Option Nat} {ad ta pa : Nat → Nat} {g n : Nat} {So : Nat → Nat} {T : Nat → Nat → Int32} {P : Nat → Nat → Option Nat} (hV : ol_V n So T P) (hg : g ∈ [50, 60]) (hL : ol_L ro F ad) (hb : F (ad 1) 3 = some (ad g)) (hT : ol_XT ro I F ad ta pa n So T P) (h0 : I (ad (g + 4)) 0 = 0) {j : Nat} (hj : j < n) (hs : ¬ So j = 2) (bk : Int32) : ol_M l D cA yX10_build cX10_build 6 (some FieldType.boolean) (ol_r 5 0 0) [.ref (ad 1), .ref (ta j), .int bk] ro I F (fun v ro' I' F' => ro' = ro ∧ ∃ w, v = some (.int w) ∧ ol_x3 ro ad ta pa g n So T P I F (sp_R So T P (¬ bk = 0) j) ((sp_R So T P (¬ bk = 0) j).1.2.1 0 0) ((sp_R So T P (¬ bk = 0) j).1.2.1 0 0 + 1) w I' F') := by
  refine ol_M.of (by decide +kernel) (Nat.le_of_ble_eq_true rfl) (by simp [Value.category, ol_rfc]) ?_
  intro p e s m args below meth c C hret hlk hin
  have hx1 : ol_is ro (ad 1) (.inl 0) := hL.is 1 (by decide) (by decide) rfl
  have hI3 := ol_XI_init hV hg hL hb hT h0
  have hxg : ol_is ro (ad g) (.inl 8) := by rcases ol_5060 hg with rfl | rfl <;> exact hL.is _ (by decide) (by decide) rfl
  refine ol_aload_n C dX10_build_0 rfl rfl (by first | exact ol_isq_r _ | exact ol_isq_q _ | exact ol_isq_n) ?_
  refine ol_gR (k := 3) C (by assumption) rfl rfl wd_89 (.inl rfl) dX10_build_1 ?_
  refine ol_rf (by assumption) ?_
  refine ol_callV C (g_makeEmpty l D cA hg hL) hxg.1 hxg.2 rfl wd_340 wd_2 wd_337 wd_338 wd_339 mh_X4_makeEmpty (by decide) rfl (by first | exact Nat.le_of_ble_eq_true rfl | simp [ol_rfc, Value.category]) dX10_build_4 (ol_xv ?_)
  refine ol_aload_n C dX10_build_7 rfl rfl (by first | exact ol_isq_r _ | exact ol_isq_q _ | exact ol_isq_n) ?_
  refine ol_gR (k := 3) C (by assumption) rfl rfl wd_89 (.inl rfl) dX10_build_8 ?_
  refine ol_rf (by assumption) ?_
  refine ol_aload_n C dX10_build_11 rfl rfl (by first | exact ol_isq_r _ | exact ol_isq_q _ | exact ol_isq_n) ?_
  refine ol_callV C (g_find l D cA hV hg hI3 (sp_b0_BW n So T) hj hs) hxg.1 hxg.2 rfl wd_344 wd_2 wd_341 wd_342 wd_343 mh_X4_findNode (by decide) rfl (by first | exact Nat.le_of_ble_eq_true rfl | simp [ol_rfc, Value.category]) dX10_build_12 (fun v_12 ro_12 I_12 F_12 hh_12 => ?_)
  obtain ⟨rfl, rfl, hI4⟩ := hh_12
  refine ol_st (st' := .int _ :: _) rfl ?_
  refine ol_pop C dX10_build_15 (by first | rfl | exact ol_rfc _) ?_
  refine ol_iconst (v := 0) C dX10_build_16 (by decide) ?_
  refine ol_istore_n C dX10_build_17 rfl (by decide) ?_
  refine ol_lv (lv' := [some (.ref (ad 1)), none, some (.int bk), some (.int (nI 0)), none, none]) (by intro i v h; rcases i with _|_|_|_|_|_|i <;> first | exact h | (simp at h)) ?_
  refine lp_xb C hV hg (bk := bk) (Rs := sp_R So T P (¬ bk = 0) j) (by decide) (fun I5 F5 b5 k hI5 hB5 hkn eR => ?_) (fun I5 F5 b5 u q z kc kf eR hz hI5 => ?_) 41 0 _ _ (sp_find (sp_b0 T) j) rfl hI4 ((sp_b0_BW n So T).find hj hs).1 (Nat.zero_le _) rfl
  · refine ol_iconst (v := 1) C dX10_build_100 (by decide) ?_
    exact ol_iret C hret hlk rfl (by decide) (by decide) dX10_build_101 ⟨rfl, _, rfl, Or.inl ⟨by rw [eR], rfl, by rw [eR, ← hkn]; exact hI5⟩⟩
  · refine ol_iconst (v := 0) C dX10_build_92 (by decide) ?_
    exact ol_iret C hret hlk rfl (by decide) (by decide) dX10_build_93 ⟨rfl, _, rfl, Or.inr ⟨u, q, z, I5, kc, kf, by rw [eR], hz, rfl, by rw [eR]; exact hI5, rfl⟩⟩

set_option maxRecDepth 100000 in
set_option maxHeartbeats 4000000 in
theorem m_load (l : Launch) (D : va_G) (cA : Nat → ClassId) {ro : Nat → Nat} {I : Nat → Nat → Int32} {F : Nat → Nat → Option Nat} {ad ta pa : Nat → Nat} {g n : Nat} {So : Nat → Nat} {T : Nat → Nat → Int32} {P : Nat → Nat → Option Nat} (hV : ol_V n So T P) (hg : g ∈ [50, 60]) (hL : ol_L ro F ad) (hb : F (ad 1) 3 = some (ad g)) (hT : ol_XT ro I F ad ta pa n So T P) (h0 : I (ad (g + 4)) 0 = 0) {h : Nat} (hl : F (ad 1) 2 = some (ad h)) (t bk : Int32) : ol_M l D cA yX10_load cX10_load 6 (some FieldType.int) (ol_r 6 0 0) [.ref (ad 1), .int t, .int bk] ro I F (fun v ro' I' F' => ro' = ro ∧ ((¬ ol_k n t ∧ v = some (.int (-1000001)) ∧ I' = I ∧ F' = F) ∨ (∃ j, t = nI j ∧ j < n ∧ So j = 2 ∧ v = some (.int (-1000003)) ∧ I' = I ∧ F' = F) ∨ ∃ j, t = nI j ∧ j < n ∧ ¬ So j = 2 ∧ (((sp_R So T P (¬ bk = 0) j).2 = none ∧ v = some (.int (nI ((sp_R So T P (¬ bk = 0) j).1.2.1 0 0))) ∧ ∃ F2, ol_XI ro ad ta pa g n So T P (ol_xr I ad (-1000009) (-1000009) 0) F I' F2 (sp_R So T P (¬ bk = 0) j).1 ((sp_R So T P (¬ bk = 0) j).1.2.1 0 0) ((sp_R So T P (¬ bk = 0) j).1.2.1 0 0 + 1) ∧ F' = ol_u2 (ol_u2 F2 (ad 1) 2 (some (ad g))) (ad 1) 3 (some (ad h))) ∨ ∃ (u : Nat) (q : Option Nat) (z : Int32) (I2 : Nat → Nat → Int32) (kc kf : Nat), (sp_R So T P (¬ bk = 0) j).2 = some (u, q, z) ∧ (z = 1 ∨ z = 2 ∨ z = 3 ∨ z = 4 ∨ z = 6) ∧ v = some (.int (-1000010 - z)) ∧ ol_XI ro ad ta pa g n So T P (ol_xr I ad (-1000009) (-1000009) 0) F I2 F' (sp_R So T P (¬ bk = 0) j).1 kc kf ∧ I' = ol_u2 (ol_xr I2 ad (nI u) (ol_e q) z) (ad 1) 7 (I2 (ad 1) 7 + 1)))) := by
  refine ol_M.of (by decide +kernel) (Nat.le_of_ble_eq_true rfl) (by simp [Value.category, ol_rfc]) ?_
  intro p e s m args below meth c C hret hlk hin
  have h40 := hV.1
  have hx1 : ol_is ro (ad 1) (.inl 0) := hL.is 1 (by decide) (by decide) rfl
  have hx11 : ol_is ro (ad 11) (.inr (2, 40)) := hL.is 11 (by decide) (by decide) rfl
  have hxg : ol_is ro (ad g) (.inl 8) := by rcases ol_5060 hg with rfl | rfl <;> exact hL.is _ (by decide) (by decide) rfl
  refine ol_aload_n C dX10_load_0 rfl rfl (by first | exact ol_isq_r _ | exact ol_isq_q _ | exact ol_isq_n) ?_
  refine ol_iload_n C dX10_load_1 rfl rfl ?_
  refine ol_callV C (m_known l D cA hx1 hL.2.1 hx11 t hT.1 h40) hx1.1 hx1.2 rfl wd_276 wd_1 wd_273 wd_275 wq_0 mh_X10_known (by decide) rfl (by first | exact Nat.le_of_ble_eq_true rfl | simp [ol_rfc, Value.category]) dX10_load_2 (ol_xq ?_)
  have ek : ol_if (¬ t < 0 ∧ ¬ I (ad 1) 1 ≤ t) (F (ad 11) t.toNatClampNeg) none = ol_if (ol_k n t) (F (ad 11) t.toNatClampNeg) none := by rw [hT.1]; rfl
  rw [ek]
  refine ol_astore_n C dX10_load_5 rfl (by decide) (by first | exact ol_isq_r _ | exact ol_isq_q _ | exact ol_isq_n) ?_
  refine ol_aload_n C dX10_load_6 rfl rfl (by first | exact ol_isq_r _ | exact ol_isq_q _ | exact ol_isq_n) ?_
  refine ol_ifnonnull (tgt := 13) C dX10_load_7 (by decide) (fun a_7 c_7 => ?_) (fun c_7 => ?_)
  · have hK : ol_k n t := Classical.byContradiction (fun q => by rw [ol_if_f q] at c_7; cases c_7)
    obtain ⟨j, hj, rfl, hj31⟩ := ol_k_ix hK h40
    rw [ol_if_t hK, nI_clamp hj31, (hT.2.1 j hj).1] at c_7
    have c_7b : ol_if (ol_k n (nI j)) (F (ad 11) (nI j).toNatClampNeg) none = some (ta j) := by rw [ol_if_t hK, nI_clamp hj31, (hT.2.1 j hj).1]
    have hxj := (hT.2.1 j hj).2
    have hth := hxj.th (hV.2 j hj).1
    refine ol_aload_n C dX10_load_13 rfl rfl (by first | exact ol_isq_r _ | exact ol_isq_q _ | exact ol_isq_n) ?_
    refine ol_rf c_7b ?_
    refine ol_in_Node C hth wd_327 dX10_load_14 ?_
    refine ol_if_eq (tgt := 29) C dX10_load_17 (by decide) (fun c_17 => ?_) (fun c_17 => ?_)
    · have hs : So j = 2 := by have := Classical.not_not.mp (ol_p_0.mp c_17); rw [hxj.1] at this; omega
      refine ol_ldc (v := (-1000003)) C wd_328 dX10_load_29 ?_
      exact ol_iret C hret hlk rfl (by decide) (by decide) dX10_load_31 ⟨rfl, Or.inr (Or.inl ⟨j, rfl, hj, hs, rfl, rfl, rfl⟩)⟩
    · have hne := ol_p_n.mp c_17
      have hs : ¬ So j = 2 := fun q => hne (by rw [hxj.1, q])
      refine ol_aload_n C dX10_load_20 rfl rfl (by first | exact ol_isq_r _ | exact ol_isq_q _ | exact ol_isq_n) ?_
      refine ol_rf c_7b ?_
      refine ol_ca_Node C hth hne wd_327 dX10_load_21 ?_
      refine ol_astore C dX10_load_24 (by decide) (by first | exact ol_isq_r _ | exact ol_isq_q _ | exact ol_isq_n) ?_
      refine ol_goto (tgt := 32) C dX10_load_26 (by decide) ?_
      refine ol_aload_n C dX10_load_32 rfl rfl (by first | exact ol_isq_r _ | exact ol_isq_q _ | exact ol_isq_n) ?_
      refine ol_ldc (v := (-1000009)) C wd_85 dX10_load_33 ?_
      refine ol_ldc (v := (-1000009)) C wd_85 dX10_load_35 ?_
      refine ol_iconst (v := 0) C dX10_load_37 (by decide) ?_
      refine ol_callV C (m_endLoad l D cA hx1 (-1000009) (-1000009) 0) hx1.1 hx1.2 rfl wd_332 wd_1 wd_329 wd_331 wq_3 mh_X10_endLoad (by decide) rfl (by first | exact Nat.le_of_ble_eq_true rfl | simp [ol_rfc, Value.category]) dX10_load_38 (ol_xv ?_)
      rw [show ol_u2 (ol_u2 (ol_u2 I (ad 1) 4 (-1000009)) (ad 1) 5 (-1000009)) (ad 1) 6 0 = ol_xr I ad (-1000009) (-1000009) 0 from rfl]
      have hT2 : ol_XT ro (ol_xr I ad (-1000009) (-1000009) 0) F ad ta pa n So T P := by
        refine hT.cg ?_ (fun t ht => ?_) rfl (fun t ht => ⟨rfl, rfl⟩)
        · unfold ol_xr
          rw [ol_u2_k _ _ (by decide), ol_u2_k _ _ (by decide), ol_u2_k _ _ (by decide)]
        · unfold ol_xr
          have := hT.nta hL hV ht (r := 1) (by decide)
          rw [ol_u2_a _ _ this, ol_u2_a _ _ this, ol_u2_a _ _ this]
      have h02 : ol_xr I ad (-1000009) (-1000009) 0 (ad (g + 4)) 0 = 0 := by
        have : ad (g + 4) ≠ ad 1 := hL.ne (ol_gu hg (by decide)) (by decide) (by rcases ol_5060 hg with rfl | rfl <;> decide)
        unfold ol_xr
        rw [ol_u2_a _ _ this, ol_u2_a _ _ this, ol_u2_a _ _ this]
        exact h0
      refine ol_aload_n C dX10_load_41 rfl rfl (by first | exact ol_isq_r _ | exact ol_isq_q _ | exact ol_isq_n) ?_
      refine ol_aload C dX10_load_42 rfl (by first | exact ol_isq_r _ | exact ol_isq_q _ | exact ol_isq_n) ?_
      refine ol_iload_n C dX10_load_44 rfl rfl ?_
      refine ol_callV C (m_build l D cA hV hg hL hb hT2 h02 hj hs bk) hx1.1 hx1.2 rfl wd_336 wd_1 wd_333 wd_335 wq_4 mh_X10_build (by decide) rfl (by first | exact Nat.le_of_ble_eq_true rfl | simp [ol_rfc, Value.category]) dX10_load_45 (fun v_45 ro_45 I_45 F_45 hh_45 => ?_)
      obtain ⟨rfl, w, rfl, hw⟩ := hh_45
      rcases hw with ⟨h1, rfl, hI5⟩ | ⟨u, q, z, I2, kc, kf, h1, hz, rfl, h3, rfl⟩
      · have d1 : ad 1 ≠ ad (g + 1) := hL.ne (by decide) (ol_gu hg (by decide)) (by rcases ol_5060 hg with rfl | rfl <;> decide)
        have hl5 : F_45 (ad 1) 2 = some (ad h) := by rw [hI5.2.2.2.2.2.2 _ d1]; exact hl
        have hlo : ol_u2 (ol_u2 F_45 (ad 1) 2 (some (ad g))) (ad 1) 3 (some (ad h)) (ad 1) 2 = some (ad g) := by rw [ol_u2_k _ _ (by decide), ol_u2_s]
        refine ol_st (st' := [.int _]) rfl ?_
        refine ol_if_ne (tgt := 69) C dX10_load_48 (by decide) (fun c_48 => ?_) (fun c_48 => absurd c_48 (by decide))
        refine ol_aload_n C dX10_load_69 rfl rfl (by first | exact ol_isq_r _ | exact ol_isq_q _ | exact ol_isq_n) ?_
        refine ol_gR (k := 2) C (by assumption) rfl rfl wd_88 (.inl rfl) dX10_load_70 ?_
        refine ol_rf hl5 ?_
        refine ol_astore C dX10_load_73 (by decide) (by first | exact ol_isq_r _ | exact ol_isq_q _ | exact ol_isq_n) ?_
        refine ol_aload_n C dX10_load_75 rfl rfl (by first | exact ol_isq_r _ | exact ol_isq_q _ | exact ol_isq_n) ?_
        refine ol_aload_n C dX10_load_76 rfl rfl (by first | exact ol_isq_r _ | exact ol_isq_q _ | exact ol_isq_n) ?_
        refine ol_gR (k := 3) C (by assumption) rfl rfl wd_89 (.inl rfl) dX10_load_77 ?_
        refine ol_rf hI5.2.1 ?_
        refine ol_pR (k := 2) (r := some _) C rfl hx1 rfl rfl wd_88 (.inl rfl) (ol_narq _ _) dX10_load_80 ?_
        refine ol_aload_n C dX10_load_83 rfl rfl (by first | exact ol_isq_r _ | exact ol_isq_q _ | exact ol_isq_n) ?_
        refine ol_aload C dX10_load_84 rfl (by first | exact ol_isq_r _ | exact ol_isq_q _ | exact ol_isq_n) ?_
        refine ol_pR (k := 3) (r := some _) C rfl hx1 rfl rfl wd_89 (.inl rfl) (ol_narq _ _) dX10_load_86 ?_
        refine ol_aload_n C dX10_load_89 rfl rfl (by first | exact ol_isq_r _ | exact ol_isq_q _ | exact ol_isq_n) ?_
        refine ol_gR (k := 2) C (by assumption) rfl rfl wd_88 (.inl rfl) dX10_load_90 ?_
        refine ol_rf hlo ?_
        refine ol_gI (k := 9) C (by assumption) rfl rfl wd_53 (.inl rfl) dX10_load_93 ?_
        refine ol_ti (show I_45 (ad g) 9 = nI ((sp_R So T P (¬ bk = 0) j).1.2.1 0 0) from hI5.2.2.2.1.1) ?_
        exact ol_iret C hret hlk rfl (by decide) (by decide) dX10_load_96 ⟨rfl, Or.inr (Or.inr ⟨j, rfl, hj, hs, Or.inl ⟨h1, rfl, F_45, hI5, rfl⟩⟩)⟩
      · refine ol_st (st' := [.int _]) rfl ?_
        refine ol_if_ne (tgt := 69) C dX10_load_48 (by decide) (fun c_48 => absurd rfl c_48) (fun c_48 => ?_)
        refine ol_aload_n C dX10_load_51 rfl rfl (by first | exact ol_isq_r _ | exact ol_isq_q _ | exact ol_isq_n) ?_
        refine ol_dup C dX10_load_52 (by first | rfl | exact ol_rfc _) ?_
        refine ol_gI (k := 7) C (by assumption) rfl rfl wd_93 (.inl rfl) dX10_load_53 ?_
        rw [show ol_xr I2 ad (nI u) (ol_e q) z (ad 1) 7 = I2 (ad 1) 7 by unfold ol_xr; rw [ol_u2_k _ _ (by decide), ol_u2_k _ _ (by decide), ol_u2_k _ _ (by decide)]]
        refine ol_iconst (v := 1) C dX10_load_56 (by decide) ?_
        refine ol_iadd C dX10_load_57 ?_
        refine ol_pI (k := 7) C (by assumption) rfl rfl wd_93 (.inl rfl) rfl rfl dX10_load_58 ?_
        refine ol_ldc (v := (-1000010)) C wd_494 dX10_load_61 ?_
        refine ol_aload_n C dX10_load_63 rfl rfl (by first | exact ol_isq_r _ | exact ol_isq_q _ | exact ol_isq_n) ?_
        refine ol_gI (k := 6) C (by assumption) rfl rfl wd_92 (.inl rfl) dX10_load_64 ?_
        rw [ol_u2_k _ _ (show 6 ≠ 7 by decide), show ol_xr I2 ad (nI u) (ol_e q) z (ad 1) 6 = z from ol_u2_s _ _ _ _]
        refine ol_isub C dX10_load_67 ?_
        exact ol_iret C hret hlk rfl (by decide) (by decide) dX10_load_68 ⟨rfl, Or.inr (Or.inr ⟨j, rfl, hj, hs, Or.inr ⟨u, q, z, I2, kc, kf, h1, hz, rfl, h3, rfl⟩⟩)⟩
  · have hK : ¬ ol_k n t := fun q => by
      obtain ⟨j, hj, rfl, hj31⟩ := ol_k_ix q h40
      rw [ol_if_t q, nI_clamp hj31, (hT.2.1 j hj).1] at c_7
      cases c_7
    refine ol_ldc (v := (-1000001)) C wd_281 dX10_load_10 ?_
    exact ol_iret C hret hlk rfl (by decide) (by decide) dX10_load_12 ⟨rfl, Or.inl ⟨hK, rfl, rfl, rfl⟩⟩
