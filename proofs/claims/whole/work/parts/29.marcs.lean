set_option maxRecDepth 100000 in
set_option maxHeartbeats 4000000 in
theorem tl_arc {p : Program} {l : Launch} {e : Env} {R : Room} {s : State} {m : MethodId} {args : Array Value} {below : List Frame} {meth : Method} {c : Code} {D : va_G} {cA : Nat → ClassId} {A : Nat → Prop} {Q : State → Prop} {ro : Nat → Nat} {F : Nat → Nat → Option Nat} {cells slots : Nat} (C : ol_Cx p s m args c cX11_arcsOf 8 yX11_arcsOf.cls D cA A) {ad : Nat → Nat} (hL : ol_L ro F ad) {g n : Nat} {So : Nat → Nat} {T : Nat → Nat → Int32} {P : Nat → Nat → Option Nat} (hV : ol_V n So T P) (hg : g < 2) {I0 : Nat → Nat → Int32} {kc kf : Nat} {I : Nat → Nat → Int32} {b : ol_B} {M t i u e2 : Nat} {w : Int32} (hI : ol_LI ad g n So T P I0 I b kc kf) (hB : ol_BW n So b M) (hM : M < 240) (hu : u < n) (he : e2 < n) (hs : ¬ So e2 = 2) (hR1 : ol_rm R (ol_r 0 0 0) 3 cells slots) (ex : ∀ I' : Nat → Nat → Int32, ol_LI ad g n So T P I0 I' (sp_arc b e2 w (ol_p (So u = 2))) kc kf → I' (ad 10) = I (ad 10) → I' (ad 30) = I (ad 30) → I' (ad 41) = I (ad 41) → ol_W p l e R s m args below meth c D cA A Q 8 ro I' F cells slots 193 [some (.ref (ad 10)), some (.int (nI g)), some (.int (nI t)), some (.int (nI i)), none, none, none, none] []) {x7 : Option Value} : ol_W p l e R s m args below meth c D cA A Q 8 ro I F cells slots 123 [some (.ref (ad 10)), some (.int (nI g)), some (.int (nI t)), some (.int (nI i)), some (.int (nI u)), some (.int (nI e2)), some (.int w), x7] [] := by
  have hm : ol_is ro (ad 10) (.inl 9) := hL.is 10 (by decide) (by decide) rfl
  have f_sorts : F (ad 10) 1 = some (ad 22) := hL.mf 1 22 (by decide)
  have i_sorts : ol_is ro (ad 22) (.inr (0, 40)) := hL.is 22 (by decide) (by decide) rfl
  have f_askedOf : F (ad 10) 7 = some (ad 28) := hL.mf 7 28 (by decide)
  have i_askedOf : ol_is ro (ad 28) (.inr (0, 40)) := hL.is 28 (by decide) (by decide) rfl
  have f_links : F (ad 10) 10 = some (ad 30) := hL.mf 10 30 (by decide)
  have i_links : ol_is ro (ad 30) (.inr (0, 6)) := hL.is 30 (by decide) (by decide) rfl
  have f_arcsIn : F (ad 10) 18 = some (ad 36) := hL.mf 18 36 (by decide)
  have i_arcsIn : ol_is ro (ad 36) (.inr (0, 2)) := hL.is 36 (by decide) (by decide) rfl
  have f_arcTo : F (ad 10) 19 = some (ad 37) := hL.mf 19 37 (by decide)
  have i_arcTo : ol_is ro (ad 37) (.inr (0, 480)) := hL.is 37 (by decide) (by decide) rfl
  have f_arcWeight : F (ad 10) 20 = some (ad 38) := hL.mf 20 38 (by decide)
  have i_arcWeight : ol_is ro (ad 38) (.inr (0, 480)) := hL.is 38 (by decide) (by decide) rfl
  have f_arcBridge : F (ad 10) 21 = some (ad 39) := hL.mf 21 39 (by decide)
  have i_arcBridge : ol_is ro (ad 39) (.inr (1, 480)) := hL.is 39 (by decide) (by decide) rfl
  have f_holeMany : F (ad 10) 22 = some (ad 40) := hL.mf 22 40 (by decide)
  have i_holeMany : ol_is ro (ad 40) (.inr (0, 2)) := hL.is 40 (by decide) (by decide) rfl
  have h40 := hV.1
  have e36 : I (ad 36) g = nI (b.2.1 0 1) := hI.2.1.2.1
  have hM2 := hB.2.2.2.1
  have n36_37 : ad 36 ≠ ad 37 := hL.ne (by decide) (by decide) (by decide)
  have n36_38 : ad 36 ≠ ad 38 := hL.ne (by decide) (by decide) (by decide)
  have n36_39 : ad 36 ≠ ad 39 := hL.ne (by decide) (by decide) (by decide)
  have n22_37 : ad 22 ≠ ad 37 := hL.ne (by decide) (by decide) (by decide)
  have n22_38 : ad 22 ≠ ad 38 := hL.ne (by decide) (by decide) (by decide)
  have n10_36 : ad 10 ≠ ad 36 := hL.ne (by decide) (by decide) (by decide)
  have n10_37 : ad 10 ≠ ad 37 := hL.ne (by decide) (by decide) (by decide)
  have n10_38 : ad 10 ≠ ad 38 := hL.ne (by decide) (by decide) (by decide)
  have n10_39 : ad 10 ≠ ad 39 := hL.ne (by decide) (by decide) (by decide)
  have n30_36 : ad 30 ≠ ad 36 := hL.ne (by decide) (by decide) (by decide)
  have n30_37 : ad 30 ≠ ad 37 := hL.ne (by decide) (by decide) (by decide)
  have n30_38 : ad 30 ≠ ad 38 := hL.ne (by decide) (by decide) (by decide)
  have n30_39 : ad 30 ≠ ad 39 := hL.ne (by decide) (by decide) (by decide)
  have n41_36 : ad 41 ≠ ad 36 := hL.ne (by decide) (by decide) (by decide)
  have n41_37 : ad 41 ≠ ad 37 := hL.ne (by decide) (by decide) (by decide)
  have n41_38 : ad 41 ≠ ad 38 := hL.ne (by decide) (by decide) (by decide)
  have n41_39 : ad 41 ≠ ad 39 := hL.ne (by decide) (by decide) (by decide)
  refine ol_sipush (v := 240) C dX11_arcsOf_123 (by decide) ?_
  refine ol_iload_n C dX11_arcsOf_126 rfl rfl ?_
  refine ol_imul C dX11_arcsOf_127 ?_
  refine ol_aload_n C dX11_arcsOf_128 rfl rfl (by first | exact ol_isq_r _ | exact ol_isq_q _ | exact ol_isq_n) ?_
  refine ol_gR (k := 18) C (by assumption) rfl rfl wd_598 (.inl rfl) dX11_arcsOf_129 ?_
  refine ol_rf (by assumption) ?_
  refine ol_iload_n C dX11_arcsOf_132 rfl rfl ?_
  refine ol_lI g C (by assumption) rfl hg (by decide) dX11_arcsOf_133 ?_
  refine ol_ti e36 ?_
  refine ol_iadd C dX11_arcsOf_134 ?_
  refine ol_ti (y := nI (240 * g + b.2.1 0 1)) (ol_ma rfl) ?_
  refine ol_istore C dX11_arcsOf_135 (by decide) ?_
  refine ol_aload_n C dX11_arcsOf_137 rfl rfl (by first | exact ol_isq_r _ | exact ol_isq_q _ | exact ol_isq_n) ?_
  refine ol_gR (k := 19) C (by assumption) rfl rfl wd_599 (.inl rfl) dX11_arcsOf_138 ?_
  refine ol_rf (by assumption) ?_
  refine ol_iload C dX11_arcsOf_141 rfl ?_
  refine ol_aload_n C dX11_arcsOf_143 rfl rfl (by first | exact ol_isq_r _ | exact ol_isq_q _ | exact ol_isq_n) ?_
  refine ol_iload_n C dX11_arcsOf_144 rfl rfl ?_
  refine ol_iload C dX11_arcsOf_145 rfl ?_
  refine ol_callV C (mm_fnd l D cA hL hg h40 hI hB he) hm.1 hm.2 rfl wd_721 wd_4 wd_718 wd_720 wq_14 mh_X11_found hR1 rfl (by first | exact Nat.le_of_ble_eq_true rfl | simp [ol_rfc, Value.category]) dX11_arcsOf_147 (fun v_147 ro_147 I_147 F_147 hh_147 => ?_)
  obtain ⟨rfl, rfl, rfl, hI2, r10, r30, r41⟩ := hh_147
  obtain ⟨-, f2, f3⟩ := sp_find_1 b e2
  have e36b : I_147 (ad 36) g = nI (b.2.1 0 1) := by have := hI2.2.1.2.1; rw [f3] at this; exact this
  have e22 : I_147 (ad 22) u = nI (So u) := (hI2.1.2 u hu).1
  have hfin := hI2.arc hL w (ol_p (So u = 2)) (by omega)
  refine ol_st (st' := .int _ :: _) rfl ?_
  refine ol_sI (240 * g + b.2.1 0 1) C (by assumption) rfl (by omega) (by decide) dX11_arcsOf_150 ?_
  refine ol_aload_n C dX11_arcsOf_151 rfl rfl (by first | exact ol_isq_r _ | exact ol_isq_q _ | exact ol_isq_n) ?_
  refine ol_gR (k := 20) C (by assumption) rfl rfl wd_600 (.inl rfl) dX11_arcsOf_152 ?_
  refine ol_rf (by assumption) ?_
  refine ol_iload C dX11_arcsOf_155 rfl ?_
  refine ol_iload C dX11_arcsOf_157 rfl ?_
  refine ol_sI (240 * g + b.2.1 0 1) C (by assumption) rfl (by omega) (by decide) dX11_arcsOf_159 ?_
  refine ol_aload_n C dX11_arcsOf_160 rfl rfl (by first | exact ol_isq_r _ | exact ol_isq_q _ | exact ol_isq_n) ?_
  refine ol_gR (k := 21) C (by assumption) rfl rfl wd_601 (.inl rfl) dX11_arcsOf_161 ?_
  refine ol_rf (by assumption) ?_
  refine ol_iload C dX11_arcsOf_164 rfl ?_
  refine ol_aload_n C dX11_arcsOf_166 rfl rfl (by first | exact ol_isq_r _ | exact ol_isq_q _ | exact ol_isq_n) ?_
  refine ol_gR (k := 1) C (by assumption) rfl rfl wd_581 (.inl rfl) dX11_arcsOf_167 ?_
  refine ol_rf (by assumption) ?_
  refine ol_iload C dX11_arcsOf_170 rfl ?_
  refine ol_lI u C (by assumption) rfl (by omega) (by decide) dX11_arcsOf_172 ?_
  rw [ol_u2_a _ _ n22_38, ol_u2_a _ _ n22_37]
  refine ol_ti e22 ?_
  refine ol_iconst (v := 2) C dX11_arcsOf_173 (by decide) ?_
  refine ol_icmp_ne (tgt := 181) C dX11_arcsOf_174 (by decide) (fun c_174 => ?_) (fun c_174 => ?_)
  · have es : ol_p (So u = 2) = 0 := ol_p_f (fun q => c_174 (by rw [q]; rfl))
    rw [es] at hfin ex
    refine ol_iconst (v := 0) C dX11_arcsOf_181 (by decide) ?_
    refine ol_sZ (240 * g + b.2.1 0 1) C (by assumption) rfl (by omega) (by decide) rfl dX11_arcsOf_182 ?_
    refine ol_aload_n C dX11_arcsOf_183 rfl rfl (by first | exact ol_isq_r _ | exact ol_isq_q _ | exact ol_isq_n) ?_
    refine ol_gR (k := 18) C (by assumption) rfl rfl wd_598 (.inl rfl) dX11_arcsOf_184 ?_
    refine ol_rf (by assumption) ?_
    refine ol_iload_n C dX11_arcsOf_187 rfl rfl ?_
    refine ol_dup2 C dX11_arcsOf_188 (by first | rfl | exact ol_rfc _) (by first | rfl | exact ol_rfc _) ?_
    refine ol_lI g C (by assumption) rfl hg (by decide) dX11_arcsOf_189 ?_
    rw [ol_u2_a _ _ n36_39, ol_u2_a _ _ n36_38, ol_u2_a _ _ n36_37]
    refine ol_ti e36b ?_
    refine ol_iconst (v := 1) C dX11_arcsOf_190 (by decide) ?_
    refine ol_iadd C dX11_arcsOf_191 ?_
    refine ol_ti (nI_1 _) ?_
    refine ol_sI g C (by assumption) rfl hg (by decide) dX11_arcsOf_192 ?_
    refine ol_lv (lv' := [some (.ref (ad 10)), some (.int (nI g)), some (.int (nI t)), some (.int (nI i)), none, none, none, none]) (by intro i v h; rcases i with _|_|_|_|_|_|_|_|i <;> first | exact h | (simp at h)) (ex _ hfin ?_ ?_ ?_)
    · rw [ol_u2_a _ _ n10_36, ol_u2_a _ _ n10_39, ol_u2_a _ _ n10_38, ol_u2_a _ _ n10_37]
      exact r10
    · rw [ol_u2_a _ _ n30_36, ol_u2_a _ _ n30_39, ol_u2_a _ _ n30_38, ol_u2_a _ _ n30_37]
      exact r30
    · rw [ol_u2_a _ _ n41_36, ol_u2_a _ _ n41_39, ol_u2_a _ _ n41_38, ol_u2_a _ _ n41_37]
      exact r41
  · have es : ol_p (So u = 2) = 1 := ol_p_t ((ol_nIk (k := 2) (hV.2 u hu).1 (by decide)).mp c_174)
    rw [es] at hfin ex
    refine ol_iconst (v := 1) C dX11_arcsOf_177 (by decide) ?_
    refine ol_goto (tgt := 182) C dX11_arcsOf_178 (by decide) ?_
    refine ol_sZ (240 * g + b.2.1 0 1) C (by assumption) rfl (by omega) (by decide) rfl dX11_arcsOf_182 ?_
    refine ol_aload_n C dX11_arcsOf_183 rfl rfl (by first | exact ol_isq_r _ | exact ol_isq_q _ | exact ol_isq_n) ?_
    refine ol_gR (k := 18) C (by assumption) rfl rfl wd_598 (.inl rfl) dX11_arcsOf_184 ?_
    refine ol_rf (by assumption) ?_
    refine ol_iload_n C dX11_arcsOf_187 rfl rfl ?_
    refine ol_dup2 C dX11_arcsOf_188 (by first | rfl | exact ol_rfc _) (by first | rfl | exact ol_rfc _) ?_
    refine ol_lI g C (by assumption) rfl hg (by decide) dX11_arcsOf_189 ?_
    rw [ol_u2_a _ _ n36_39, ol_u2_a _ _ n36_38, ol_u2_a _ _ n36_37]
    refine ol_ti e36b ?_
    refine ol_iconst (v := 1) C dX11_arcsOf_190 (by decide) ?_
    refine ol_iadd C dX11_arcsOf_191 ?_
    refine ol_ti (nI_1 _) ?_
    refine ol_sI g C (by assumption) rfl hg (by decide) dX11_arcsOf_192 ?_
    refine ol_lv (lv' := [some (.ref (ad 10)), some (.int (nI g)), some (.int (nI t)), some (.int (nI i)), none, none, none, none]) (by intro i v h; rcases i with _|_|_|_|_|_|_|_|i <;> first | exact h | (simp at h)) (ex _ hfin ?_ ?_ ?_)
    · rw [ol_u2_a _ _ n10_36, ol_u2_a _ _ n10_39, ol_u2_a _ _ n10_38, ol_u2_a _ _ n10_37]
      exact r10
    · rw [ol_u2_a _ _ n30_36, ol_u2_a _ _ n30_39, ol_u2_a _ _ n30_38, ol_u2_a _ _ n30_37]
      exact r30
    · rw [ol_u2_a _ _ n41_36, ol_u2_a _ _ n41_39, ol_u2_a _ _ n41_38, ol_u2_a _ _ n41_37]
      exact r41

set_option maxRecDepth 100000 in
set_option maxHeartbeats 4000000 in
theorem lp_arcs {p : Program} {l : Launch} {e : Env} {R : Room} {s : State} {m : MethodId} {args : Array Value} {below : List Frame} {meth : Method} {c : Code} {D : va_G} {cA : Nat → ClassId} {A : Nat → Prop} {Q : State → Prop} {ro : Nat → Nat} {F : Nat → Nat → Option Nat} {cells slots : Nat} (C : ol_Cx p s m args c cX11_arcsOf 8 yX11_arcsOf.cls D cA A) {ad : Nat → Nat} (hL : ol_L ro F ad) {g n : Nat} {So : Nat → Nat} {T : Nat → Nat → Int32} {P : Nat → Nat → Option Nat} (hV : ol_V n So T P) (hg : g < 2) {I0 : Nat → Nat → Int32} {kc kf : Nat} {K41 : Nat → Int32} {M t : Nat} {Rs : ol_B × Option (Nat × Int32)} (ht : t < n) (hc : sp_lc So T P t = 0) (hM : M + 6 ≤ 240) (hR1 : ol_rm R (ol_r 0 0 0) 3 cells slots) (hR2 : ol_rm R (ol_r 1 0 0) 3 cells slots) (ex : ∀ (I : Nat → Nat → Int32) (b : ol_B), ol_LI ad g n So T P I0 I b kc kf → ol_BW n So b (M + sp_ln So P t) → I (ad 41) = K41 → Rs = (b, none) → ol_W p l e R s m args below meth c D cA A Q 8 ro I F cells slots 199 [some (.ref (ad 10)), some (.int (nI g)), some (.int (nI t)), some (.int (nI (sp_ln So P t))), none, none, none, none] []) (ex2 : ∀ (I : Nat → Nat → Int32) (b : ol_B) (u : Nat) (z : Int32), ol_LI ad g n So T P I0 I b kc kf → ol_BW n So b 240 → u < n → (z = 1 ∨ z = 3) → Rs = (b, some (u, z)) → ol_W p l e R s m args below meth c D cA A Q 8 ro I F cells slots 81 [some (.ref (ad 10)), none, none, none, some (.int (nI u)), none, none, some (.int z)] []) : ∀ (d i : Nat) (I : Nat → Nat → Int32) (b : ol_B), i + d = sp_ln So P t → ol_LI ad g n So T P I0 I b kc kf → ol_BW n So b (M + i) → I (ad 41) = K41 → I (ad 10) 11 = nI (sp_ln So P t) → (∀ j, j < sp_ln So P t → I (ad 30) j = ol_e (sp_lk So T P t j)) → sp_ls So T P t d i b = Rs → ol_W p l e R s m args below meth c D cA A Q 8 ro I F cells slots 2 [some (.ref (ad 10)), some (.int (nI g)), some (.int (nI t)), some (.int (nI i)), none, none, none, none] [] := by
  have hm : ol_is ro (ad 10) (.inl 9) := hL.is 10 (by decide) (by decide) rfl
  have f_sorts : F (ad 10) 1 = some (ad 22) := hL.mf 1 22 (by decide)
  have i_sorts : ol_is ro (ad 22) (.inr (0, 40)) := hL.is 22 (by decide) (by decide) rfl
  have f_askedOf : F (ad 10) 7 = some (ad 28) := hL.mf 7 28 (by decide)
  have i_askedOf : ol_is ro (ad 28) (.inr (0, 40)) := hL.is 28 (by decide) (by decide) rfl
  have f_links : F (ad 10) 10 = some (ad 30) := hL.mf 10 30 (by decide)
  have i_links : ol_is ro (ad 30) (.inr (0, 6)) := hL.is 30 (by decide) (by decide) rfl
  have f_arcsIn : F (ad 10) 18 = some (ad 36) := hL.mf 18 36 (by decide)
  have i_arcsIn : ol_is ro (ad 36) (.inr (0, 2)) := hL.is 36 (by decide) (by decide) rfl
  have f_arcTo : F (ad 10) 19 = some (ad 37) := hL.mf 19 37 (by decide)
  have i_arcTo : ol_is ro (ad 37) (.inr (0, 480)) := hL.is 37 (by decide) (by decide) rfl
  have f_arcWeight : F (ad 10) 20 = some (ad 38) := hL.mf 20 38 (by decide)
  have i_arcWeight : ol_is ro (ad 38) (.inr (0, 480)) := hL.is 38 (by decide) (by decide) rfl
  have f_arcBridge : F (ad 10) 21 = some (ad 39) := hL.mf 21 39 (by decide)
  have i_arcBridge : ol_is ro (ad 39) (.inr (1, 480)) := hL.is 39 (by decide) (by decide) rfl
  have f_holeMany : F (ad 10) 22 = some (ad 40) := hL.mf 22 40 (by decide)
  have i_holeMany : ol_is ro (ad 40) (.inr (0, 2)) := hL.is 40 (by decide) (by decide) rfl
  have h40 := hV.1
  have n10_40 : ad 10 ≠ ad 40 := hL.ne (by decide) (by decide) (by decide)
  have n30_40 : ad 30 ≠ ad 40 := hL.ne (by decide) (by decide) (by decide)
  have n10_28 : ad 10 ≠ ad 28 := hL.ne (by decide) (by decide) (by decide)
  have n30_10 : ad 30 ≠ ad 10 := hL.ne (by decide) (by decide) (by decide)
  have n30_28 : ad 30 ≠ ad 28 := hL.ne (by decide) (by decide) (by decide)
  have n41_40 : ad 41 ≠ ad 40 := hL.ne (by decide) (by decide) (by decide)
  have n41_10 : ad 41 ≠ ad 10 := hL.ne (by decide) (by decide) (by decide)
  have n41_28 : ad 41 ≠ ad 28 := hL.ne (by decide) (by decide) (by decide)
  intro d
  induction d with
  | zero =>
    intro i I b hk hI hB h41 h2 h3 hR
    have hk6 : i = sp_ln So P t := by omega
    subst hk6
    refine ol_iload_n C dX11_arcsOf_2 rfl rfl ?_
    refine ol_aload_n C dX11_arcsOf_3 rfl rfl (by first | exact ol_isq_r _ | exact ol_isq_q _ | exact ol_isq_n) ?_
    refine ol_gI (k := 11) C (by assumption) rfl rfl wd_591 (.inl rfl) dX11_arcsOf_4 ?_
    refine ol_ti h2 ?_
    refine ol_icmp_ge (tgt := 199) C dX11_arcsOf_7 (by decide) (fun c_7 => ?_) (fun c_7 => absurd (Int32.le_refl (nI (sp_ln So P t))) c_7)
    exact ex I b hI hB h41 hR.symm
  | succ d ih =>
    intro i I b hk hI hB h41 h2 h3 hR
    have hi6 : i < sp_ln So P t := by omega
    have l6 := sp_ln_le So P t
    refine ol_iload_n C dX11_arcsOf_2 rfl rfl ?_
    refine ol_aload_n C dX11_arcsOf_3 rfl rfl (by first | exact ol_isq_r _ | exact ol_isq_q _ | exact ol_isq_n) ?_
    refine ol_gI (k := 11) C (by assumption) rfl rfl wd_591 (.inl rfl) dX11_arcsOf_4 ?_
    refine ol_ti h2 ?_
    refine ol_icmp_ge (tgt := 199) C dX11_arcsOf_7 (by decide) (fun c_7 => absurd c_7 (nI_ge hi6 (by omega))) (fun c_7 => ?_)
    refine ol_aload_n C dX11_arcsOf_10 rfl rfl (by first | exact ol_isq_r _ | exact ol_isq_q _ | exact ol_isq_n) ?_
    refine ol_gR (k := 10) C (by assumption) rfl rfl wd_590 (.inl rfl) dX11_arcsOf_11 ?_
    refine ol_rf (by assumption) ?_
    refine ol_iload_n C dX11_arcsOf_14 rfl rfl ?_
    refine ol_lI i C (by assumption) rfl (by omega) (by decide) dX11_arcsOf_15 ?_
    refine ol_ti (h3 i hi6) ?_
    refine ol_istore C dX11_arcsOf_16 (by decide) ?_
    refine ol_iload C dX11_arcsOf_18 rfl ?_
    refine ol_ldc (v := (-1000009)) C wd_677 dX11_arcsOf_20 ?_
    refine ol_icmp_ne (tgt := 38) C dX11_arcsOf_22 (by decide) (fun c_22 => ?_) (fun c_22 => ?_)
    · obtain ⟨u, hu, eu⟩ := ol_e_s c_22
      have hun : u < n := sp_lk_lt hV ht hc hi6 hu
      have e22 : I (ad 22) u = nI (So u) := (hI.1.2 u hun).1
      have l6 := sp_ln_le So P t
      rw [eu]
      refine ol_iload C dX11_arcsOf_38 rfl ?_
      refine ol_istore C dX11_arcsOf_40 (by decide) ?_
      refine ol_iconst (v := 1) C dX11_arcsOf_42 (by decide) ?_
      refine ol_istore C dX11_arcsOf_43 (by decide) ?_
      refine ol_aload_n C dX11_arcsOf_45 rfl rfl (by first | exact ol_isq_r _ | exact ol_isq_q _ | exact ol_isq_n) ?_
      refine ol_gR (k := 1) C (by assumption) rfl rfl wd_581 (.inl rfl) dX11_arcsOf_46 ?_
      refine ol_rf (by assumption) ?_
      refine ol_iload C dX11_arcsOf_49 rfl ?_
      refine ol_lI u C (by assumption) rfl (by omega) (by decide) dX11_arcsOf_51 ?_
      refine ol_ti e22 ?_
      refine ol_iconst (v := 2) C dX11_arcsOf_52 (by decide) ?_
      refine ol_icmp_ne (tgt := 123) C dX11_arcsOf_53 (by decide) (fun c_53 => ?_) (fun c_53 => ?_)
      · have s2 : ¬ So u = 2 := fun q => c_53 (by rw [q]; rfl)
        have hz : ol_p (So u = 2) = 0 := ol_p_f s2
        refine tl_arc C hL hV hg hI hB (by omega) hun hun s2 hR1 (fun I2 hI2 k10 k30 k41 => ?_)
        rw [hz] at hI2
        refine ol_iincN C dX11_arcsOf_193 rfl (by decide) ?_
        refine ol_goto (tgt := 2) C dX11_arcsOf_196 (by decide) ?_
        exact ih (i + 1) I2 _ (by omega) hI2 ((hB.arc 1 0 hun s2).mono (by omega)) (by rw [k41]; exact h41) (by rw [k10]; exact h2) (by rw [k30]; exact h3) (by rw [← hR, sp_ls_node hu s2])
      · have s2 : So u = 2 := (ol_nIk (k := 2) (hV.2 u hun).1 (by decide)).mp c_53
        refine ol_aload_n C dX11_arcsOf_56 rfl rfl (by first | exact ol_isq_r _ | exact ol_isq_q _ | exact ol_isq_n) ?_
        refine ol_gR (k := 7) C (by assumption) rfl rfl wd_587 (.inl rfl) dX11_arcsOf_57 ?_
        refine ol_rf (by assumption) ?_
        refine ol_iload C dX11_arcsOf_60 rfl ?_
        refine ol_dup2 C dX11_arcsOf_62 (by first | rfl | exact ol_rfc _) (by first | rfl | exact ol_rfc _) ?_
        refine ol_lI u C (by assumption) rfl (by omega) (by decide) dX11_arcsOf_63 ?_
        refine ol_ti (hI.asked hun) ?_
        refine ol_iconst (v := 1) C dX11_arcsOf_64 (by decide) ?_
        refine ol_iadd C dX11_arcsOf_65 ?_
        refine ol_sI u C (by assumption) rfl (by omega) (by decide) dX11_arcsOf_66 ?_
        have hI1 := hI.ask hL u
        refine ol_aload_n C dX11_arcsOf_67 rfl rfl (by first | exact ol_isq_r _ | exact ol_isq_q _ | exact ol_isq_n) ?_
        refine ol_iload C dX11_arcsOf_68 rfl ?_
        refine ol_iload_n C dX11_arcsOf_70 rfl rfl ?_
        refine ol_callV C (mm_tellEnd l D cA hL hI1.1 hV hun ht) hm.1 hm.2 rfl wd_750 wd_4 wd_747 wd_749 wq_21 mh_X11_tellEnd hR2 rfl (by first | exact Nat.le_of_ble_eq_true rfl | simp [ol_rfc, Value.category]) dX11_arcsOf_71 (ol_xi ?_)
        have hI2 := hI1.sq hL ((ol_sq_rf ad _).up (ol_e (sp_en P u t)) (Or.inl ⟨rfl, Or.inl rfl⟩))
        have hcz : ol_if (sp_en P u t = none) (1 : Int32) (ol_if (ol_br So (sp_en P u t)) 3 0) ≤ 0 ↔ ol_if (sp_en P u t = none) (1 : Int32) (ol_if (ol_br So (sp_en P u t)) 3 0) = 0 := ol_le0 (by rcases ol_if_or (sp_en P u t = none) (1 : Int32) (ol_if (ol_br So (sp_en P u t)) 3 0) with h | h <;> rw [h]; simp; rcases ol_if_or (ol_br So (sp_en P u t)) (3 : Int32) 0 with h | h <;> rw [h] <;> simp)
        refine ol_istore C dX11_arcsOf_74 (by decide) ?_
        refine ol_iload C dX11_arcsOf_76 rfl ?_
        refine ol_if_le (tgt := 92) C dX11_arcsOf_78 (by decide) (fun c_78 => ?_) (fun c_78 => ?_)
        · have hz := hcz.mp c_78
          have hne : ¬ sp_en P u t = none := fun q => by rw [ol_if_t q] at hz; exact absurd hz (by decide)
          have hnb : ¬ ol_br So (sp_en P u t) := fun q => by rw [ol_if_f hne, ol_if_t q] at hz; exact absurd hz (by decide)
          obtain ⟨e2, hen0⟩ := Option.ne_none_iff_exists'.mp hne
          have hen : e2 < n := sp_en_lt hV hun hen0
          have se : ¬ So e2 = 2 := fun q => hnb ⟨e2, hen0, q⟩
          refine ol_aload_n C dX11_arcsOf_92 rfl rfl (by first | exact ol_isq_r _ | exact ol_isq_q _ | exact ol_isq_n) ?_
          refine ol_gI (k := 9) C (by assumption) rfl rfl wd_589 (.inl rfl) dX11_arcsOf_93 ?_
          rw [ol_u2_s]
          refine ol_ti (y := nI e2) (by rw [hen0]; rfl) ?_
          refine ol_istore C dX11_arcsOf_96 (by decide) ?_
          refine ol_aload_n C dX11_arcsOf_98 rfl rfl (by first | exact ol_isq_r _ | exact ol_isq_q _ | exact ol_isq_n) ?_
          refine ol_gR (k := 7) C (by assumption) rfl rfl wd_587 (.inl rfl) dX11_arcsOf_99 ?_
          refine ol_rf (by assumption) ?_
          refine ol_iload C dX11_arcsOf_102 rfl ?_
          refine ol_dup2 C dX11_arcsOf_104 (by first | rfl | exact ol_rfc _) (by first | rfl | exact ol_rfc _) ?_
          refine ol_lI u C (by assumption) rfl (by omega) (by decide) dX11_arcsOf_105 ?_
          refine ol_ti (hI2.asked hun) ?_
          refine ol_iconst (v := 1) C dX11_arcsOf_106 (by decide) ?_
          refine ol_iadd C dX11_arcsOf_107 ?_
          refine ol_sI u C (by assumption) rfl (by omega) (by decide) dX11_arcsOf_108 ?_
          have hI4 := hI2.ask hL u
          refine ol_aload_n C dX11_arcsOf_109 rfl rfl (by first | exact ol_isq_r _ | exact ol_isq_q _ | exact ol_isq_n) ?_
          refine ol_iload C dX11_arcsOf_110 rfl ?_
          refine ol_callV C (mm_tVal l D cA hL hI4.1 hV hun) hm.1 hm.2 rfl wd_738 wd_4 wd_735 wd_737 wq_18 mh_X11_tellValue hR1 rfl (by first | exact Nat.le_of_ble_eq_true rfl | simp [ol_rfc, Value.category]) dX11_arcsOf_112 (ol_xi ?_)
          have hI5 := hI4.sq hL ((ol_sq_rf ad _).up (sp_vv So (va_up T 4 (sp_ask (sp_ask b u) u).1) u) (Or.inl ⟨rfl, Or.inl rfl⟩))
          refine ol_istore C dX11_arcsOf_115 (by decide) ?_
          refine ol_aload_n C dX11_arcsOf_117 rfl rfl (by first | exact ol_isq_r _ | exact ol_isq_q _ | exact ol_isq_n) ?_
          refine ol_gI (k := 9) C (by assumption) rfl rfl wd_589 (.inl rfl) dX11_arcsOf_118 ?_
          rw [ol_u2_s]
          refine ol_ti (y := T 2 u) (by unfold sp_vv; rw [ol_if_f (by omega), ol_if_f (by omega), ol_if_f (by omega)]; rfl) ?_
          refine ol_istore C dX11_arcsOf_121 (by decide) ?_
          refine tl_arc C hL hV hg hI5 (hB.ask u |>.ask u) (by omega) hun hen se hR1 (fun I2 hI2 k10 k30 k41 => ?_)
          rw [ol_p_t s2] at hI2
          refine ol_iincN C dX11_arcsOf_193 rfl (by decide) ?_
          refine ol_goto (tgt := 2) C dX11_arcsOf_196 (by decide) ?_
          exact ih (i + 1) I2 _ (by omega) hI2 (((hB.ask u |>.ask u).arc (T 2 u) 1 hen se).mono (by omega)) (by rw [k41, ol_u2_a _ _ n41_10, ol_u2_a _ _ n41_28, ol_u2_a _ _ n41_10, ol_u2_a _ _ n41_28]; exact h41) (by rw [k10, ol_u2_k _ _ (by decide), ol_u2_a _ _ n10_28, ol_u2_k _ _ (by decide), ol_u2_a _ _ n10_28]; exact h2) (by rw [k30, ol_u2_a _ _ n30_10, ol_u2_a _ _ n30_28, ol_u2_a _ _ n30_10, ol_u2_a _ _ n30_28]; exact h3) (by rw [← hR, sp_ls_ok hu s2 hen0 se])
        · refine ol_lv (lv' := [some (.ref (ad 10)), none, none, none, some (.int (nI u)), none, none, some (.int (ol_if (sp_en P u t = none) (1 : Int32) (ol_if (ol_br So (sp_en P u t)) 3 0)))]) (by intro i v h; rcases i with _|_|_|_|_|_|_|_|i <;> first | exact h | (simp at h)) ?_
          by_cases hen : sp_en P u t = none
          · rw [ol_if_t hen]
            exact ex2 _ (sp_ask b u) u 1 hI2 ((hB.ask u).mono (by omega)) hun (Or.inl rfl) (by rw [← hR, sp_ls_b1 hu s2 hen])
          · rw [ol_if_f hen]
            by_cases hbr : ol_br So (sp_en P u t)
            · rw [ol_if_t hbr]
              obtain ⟨e2, h4, h5⟩ := hbr
              exact ex2 _ (sp_ask b u) u 3 hI2 ((hB.ask u).mono (by omega)) hun (Or.inr rfl) (by rw [← hR, sp_ls_b3 hu s2 h4 h5])
            · exact absurd (by rw [ol_if_f hen, ol_if_f hbr]; decide) c_78
    · have hq0 : sp_lk So T P t i = none := ol_e_n (fun u hu => by have := sp_lk_lt hV ht hc hi6 hu; omega) c_22
      refine ol_aload_n C dX11_arcsOf_25 rfl rfl (by first | exact ol_isq_r _ | exact ol_isq_q _ | exact ol_isq_n) ?_
      refine ol_gR (k := 22) C (by assumption) rfl rfl wd_602 (.inl rfl) dX11_arcsOf_26 ?_
      refine ol_rf (by assumption) ?_
      refine ol_iload_n C dX11_arcsOf_29 rfl rfl ?_
      refine ol_dup2 C dX11_arcsOf_30 (by first | rfl | exact ol_rfc _) (by first | rfl | exact ol_rfc _) ?_
      refine ol_lI g C (by assumption) rfl hg (by decide) dX11_arcsOf_31 ?_
      refine ol_ti (show I (ad 40) g = nI (b.2.1 0 2) from hI.2.1.2.2.1) ?_
      refine ol_iconst (v := 1) C dX11_arcsOf_32 (by decide) ?_
      refine ol_iadd C dX11_arcsOf_33 ?_
      refine ol_ti (nI_1 _) ?_
      refine ol_sI g C (by assumption) rfl hg (by decide) dX11_arcsOf_34 ?_
      refine ol_goto (tgt := 193) C dX11_arcsOf_35 (by decide) ?_
      refine ol_iincN C dX11_arcsOf_193 rfl (by decide) ?_
      refine ol_goto (tgt := 2) C dX11_arcsOf_196 (by decide) ?_
      refine ol_lv (lv' := [some (.ref (ad 10)), some (.int (nI g)), some (.int (nI t)), some (.int (nI (i + 1))), none, none, none, none]) (by intro i v h; rcases i with _|_|_|_|_|_|_|_|i <;> first | exact h | (simp at h)) ?_
      refine ih (i + 1) _ (sp_hole b) (by omega) (hI.hole hL) (hB.hole.mono (by omega)) ?_ ?_ ?_ (by rw [← hR, sp_ls_none hq0])
      · rw [ol_u2_a _ _ n41_40]
        exact h41
      · rw [ol_u2_a _ _ n10_40]
        exact h2
      · rw [ol_u2_a _ _ n30_40]
        exact h3
