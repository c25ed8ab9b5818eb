set_option maxRecDepth 100000 in
set_option maxHeartbeats 4000000 in
theorem tl_ask {p : Program} {l : Launch} {e : Env} {s : State} {m : MethodId} {args : Array Value} {below : List Frame} {meth : Method} {c : Code} {D : va_G} {cA : Nat → ClassId} {ro : Nat → Nat} {F : Nat → Nat → Option Nat} {post : Option Value → (Nat → Nat) → (Nat → Nat → Int32) → (Nat → Nat → Option Nat) → Prop} (C : ol_Cx p s m args c cX11_ask 7 yX11_ask.cls D cA (ol_fr ro s.heap.size)) (hret : meth.sig.returnType = some .int) (hlk : meth.locks = false) {ad : Nat → Nat} (hL : ol_L ro F ad) {g n : Nat} {So : Nat → Nat} {T : Nat → Nat → Int32} {P : Nat → Nat → Option Nat} (hV : ol_V n So T P) (hg : g < 2) {I0 : Nat → Nat → Int32} {I : Nat → Nat → Int32} {b : ol_B} {k t : Nat} (hI : ol_LI ad g n So T P I0 I b k k) (hB : ol_BW n So b (6 * k)) (hk40 : k < 40) (ht : t < n) (hfa : b.2.1 2 k = b.2.1 0 1) {x3 : Option Value} (hp : ∀ (v : Int32) (I' : Nat → Nat → Int32), ol_ao ad g n So T P I0 (sp_n2 So T P k t b) k (I (ad 41)) v I' → post (some (.int v)) ro I' F) : ol_W p l e (ol_r 3 0 0) s m args below meth c D cA (ol_fr ro s.heap.size) (ol_Q D cA below args s (ol_r 3 0 0) ro post) 7 ro I F 0 0 112 [some (.ref (ad 10)), some (.int (nI g)), some (.int (nI k)), x3, some (.int (nI t)), none, none] [] := by
  have hm : ol_is ro (ad 10) (.inl 9) := hL.is 10 (by decide) (by decide) rfl
  have f_askedOf : F (ad 10) 7 = some (ad 28) := hL.mf 7 28 (by decide)
  have i_askedOf : ol_is ro (ad 28) (.inr (0, 40)) := hL.is 28 (by decide) (by decide) rfl
  have f_links : F (ad 10) 10 = some (ad 30) := hL.mf 10 30 (by decide)
  have i_links : ol_is ro (ad 30) (.inr (0, 6)) := hL.is 30 (by decide) (by decide) rfl
  have f_thingOf : F (ad 10) 14 = some (ad 32) := hL.mf 14 32 (by decide)
  have i_thingOf : ol_is ro (ad 32) (.inr (0, 80)) := hL.is 32 (by decide) (by decide) rfl
  have f_columns : F (ad 10) 16 = some (ad 34) := hL.mf 16 34 (by decide)
  have i_columns : ol_is ro (ad 34) (.inr (0, 80)) := hL.is 34 (by decide) (by decide) rfl
  have f_firstArc : F (ad 10) 17 = some (ad 35) := hL.mf 17 35 (by decide)
  have i_firstArc : ol_is ro (ad 35) (.inr (0, 82)) := hL.is 35 (by decide) (by decide) rfl
  have f_arcsIn : F (ad 10) 18 = some (ad 36) := hL.mf 18 36 (by decide)
  have i_arcsIn : ol_is ro (ad 36) (.inr (0, 2)) := hL.is 36 (by decide) (by decide) rfl
  have f_keyOf : F (ad 10) 27 = some (ad 41) := hL.mf 27 41 (by decide)
  have i_keyOf : ol_is ro (ad 41) (.inr (0, 40)) := hL.is 41 (by decide) (by decide) rfl
  have h40 := hV.1
  have n41_28 : ad 41 ≠ ad 28 := hL.ne (by decide) (by decide) (by decide)
  have n41_10 : ad 41 ≠ ad 10 := hL.ne (by decide) (by decide) (by decide)
  have n41_34 : ad 41 ≠ ad 34 := hL.ne (by decide) (by decide) (by decide)
  have n41_35 : ad 41 ≠ ad 35 := hL.ne (by decide) (by decide) (by decide)
  have n41_30 : ad 41 ≠ ad 30 := hL.ne (by decide) (by decide) (by decide)
  have n10_28 : ad 10 ≠ ad 28 := hL.ne (by decide) (by decide) (by decide)
  have n10_34 : ad 10 ≠ ad 34 := hL.ne (by decide) (by decide) (by decide)
  have n10_35 : ad 10 ≠ ad 35 := hL.ne (by decide) (by decide) (by decide)
  have n30_28 : ad 30 ≠ ad 28 := hL.ne (by decide) (by decide) (by decide)
  have n30_34 : ad 30 ≠ ad 34 := hL.ne (by decide) (by decide) (by decide)
  have n30_35 : ad 30 ≠ ad 35 := hL.ne (by decide) (by decide) (by decide)
  have n30_10 : ad 30 ≠ ad 10 := hL.ne (by decide) (by decide) (by decide)
  refine ol_aload_n C dX11_ask_112 rfl rfl (by first | exact ol_isq_r _ | exact ol_isq_q _ | exact ol_isq_n) ?_
  refine ol_gR (k := 7) C (by assumption) rfl rfl wd_587 (.inl rfl) dX11_ask_113 ?_
  refine ol_rf (by assumption) ?_
  refine ol_iload C dX11_ask_116 rfl ?_
  refine ol_dup2 C dX11_ask_118 (by first | rfl | exact ol_rfc _) (by first | rfl | exact ol_rfc _) ?_
  refine ol_lI t C (by assumption) rfl (by omega) (by decide) dX11_ask_119 ?_
  refine ol_ti (hI.asked ht) ?_
  refine ol_iconst (v := 1) C dX11_ask_120 (by decide) ?_
  refine ol_iadd C dX11_ask_121 ?_
  refine ol_sI t C (by assumption) rfl (by omega) (by decide) dX11_ask_122 ?_
  have hI1 := hI.ask hL t
  refine ol_aload_n C dX11_ask_123 rfl rfl (by first | exact ol_isq_r _ | exact ol_isq_q _ | exact ol_isq_n) ?_
  refine ol_iload C dX11_ask_124 rfl ?_
  refine ol_callV C (mm_tVal l D cA hL hI1.1 hV ht) hm.1 hm.2 rfl wd_738 wd_4 wd_735 wd_737 wq_18 mh_X11_tellValue (by decide) rfl (by first | exact Nat.le_of_ble_eq_true rfl | simp [ol_rfc, Value.category]) dX11_ask_126 (ol_xi ?_)
  have hI2 := hI1.sq hL ((ol_sq_rf ad _).up (sp_vv So (va_up T 4 (sp_ask b t).1) t) (Or.inl ⟨rfl, Or.inl rfl⟩))
  refine ol_istore C dX11_ask_129 (by decide) ?_
  refine ol_iload C dX11_ask_131 rfl ?_
  refine ol_if_le (tgt := 147) C dX11_ask_133 (by decide) (fun c_133 => ?_) (fun c_133 => ?_)
  · have hv0 : sp_vc So T t = 0 := (sp_v0 So T t).mp c_133
    refine ol_aload_n C dX11_ask_147 rfl rfl (by first | exact ol_isq_r _ | exact ol_isq_q _ | exact ol_isq_n) ?_
    refine ol_gR (k := 16) C (by assumption) rfl rfl wd_596 (.inl rfl) dX11_ask_148 ?_
    refine ol_rf (by assumption) ?_
    refine ol_bipush (v := 40) C dX11_ask_151 (by decide) ?_
    refine ol_iload_n C dX11_ask_153 rfl rfl ?_
    refine ol_imul C dX11_ask_154 ?_
    refine ol_iload_n C dX11_ask_155 rfl rfl ?_
    refine ol_iadd C dX11_ask_156 ?_
    refine ol_aload_n C dX11_ask_157 rfl rfl (by first | exact ol_isq_r _ | exact ol_isq_q _ | exact ol_isq_n) ?_
    refine ol_gI (k := 9) C (by assumption) rfl rfl wd_589 (.inl rfl) dX11_ask_158 ?_
    rw [ol_u2_s]
    refine ol_sI (40 * g + k) C (by assumption) (ol_ma rfl) (by omega) (by decide) dX11_ask_161 ?_
    have hI3 := hI2.col hL hk40 (sp_vv So T t)
    refine ol_aload_n C dX11_ask_162 rfl rfl (by first | exact ol_isq_r _ | exact ol_isq_q _ | exact ol_isq_n) ?_
    refine ol_gR (k := 7) C (by assumption) rfl rfl wd_587 (.inl rfl) dX11_ask_163 ?_
    refine ol_rf (by assumption) ?_
    refine ol_iload C dX11_ask_166 rfl ?_
    refine ol_dup2 C dX11_ask_168 (by first | rfl | exact ol_rfc _) (by first | rfl | exact ol_rfc _) ?_
    refine ol_lI t C (by assumption) rfl (by omega) (by decide) dX11_ask_169 ?_
    refine ol_ti (hI3.asked ht) ?_
    refine ol_iconst (v := 1) C dX11_ask_170 (by decide) ?_
    refine ol_iadd C dX11_ask_171 ?_
    refine ol_sI t C (by assumption) rfl (by omega) (by decide) dX11_ask_172 ?_
    have hI4 := hI3.ask hL t
    refine ol_aload_n C dX11_ask_173 rfl rfl (by first | exact ol_isq_r _ | exact ol_isq_q _ | exact ol_isq_n) ?_
    refine ol_iload C dX11_ask_174 rfl ?_
    refine ol_callV C (mm_tellLinks l D cA hL hI4.1 hV ht) hm.1 hm.2 rfl wd_742 wd_4 wd_739 wd_741 wq_19 mh_X11_tellLinks (by decide) rfl (by first | exact Nat.le_of_ble_eq_true rfl | simp [ol_rfc, Value.category]) dX11_ask_176 (fun v_176 ro_176 I_176 F_176 hh_176 => ?_)
    obtain ⟨rfl, rfl, rfl, q1, q2⟩ := hh_176
    have hI5 := hI4.sq hL q1
    have k41 : I_176 (ad 41) = I (ad 41) := by
      funext z
      rw [q1.row hL 41 z (by decide) (by decide) (by decide) (by decide), ol_u2_a _ _ n41_28, ol_u2_a _ _ n41_34, ol_u2_a _ _ n41_10, ol_u2_a _ _ n41_28]
    refine ol_st (st' := .int _ :: _) rfl ?_
    refine ol_istore C dX11_ask_179 (by decide) ?_
    refine ol_iload C dX11_ask_181 rfl ?_
    refine ol_if_le (tgt := 197) C dX11_ask_183 (by decide) (fun c_183 => ?_) (fun c_183 => ?_)
    · have hl0 : sp_lc So T P t = 0 := (sp_l0 So T P t).mp c_183
      obtain ⟨y1, y2⟩ := q2 hl0
      refine ol_aload_n C dX11_ask_197 rfl rfl (by first | exact ol_isq_r _ | exact ol_isq_q _ | exact ol_isq_n) ?_
      refine ol_gR (k := 17) C (by assumption) rfl rfl wd_597 (.inl rfl) dX11_ask_198 ?_
      refine ol_rf (by assumption) ?_
      refine ol_bipush (v := 41) C dX11_ask_201 (by decide) ?_
      refine ol_iload_n C dX11_ask_203 rfl rfl ?_
      refine ol_imul C dX11_ask_204 ?_
      refine ol_iload_n C dX11_ask_205 rfl rfl ?_
      refine ol_iadd C dX11_ask_206 ?_
      refine ol_aload_n C dX11_ask_207 rfl rfl (by first | exact ol_isq_r _ | exact ol_isq_q _ | exact ol_isq_n) ?_
      refine ol_gR (k := 18) C (by assumption) rfl rfl wd_598 (.inl rfl) dX11_ask_208 ?_
      refine ol_rf (by assumption) ?_
      refine ol_iload_n C dX11_ask_211 rfl rfl ?_
      refine ol_lI g C (by assumption) rfl hg (by decide) dX11_ask_212 ?_
      refine ol_ti (show I_176 (ad 36) g = nI (b.2.1 0 1) from hI5.2.1.2.1) ?_
      refine ol_sI (41 * g + k) C (by assumption) (ol_ma rfl) (by omega) (by decide) dX11_ask_213 ?_
      have hI6 := hI5.fa hL (by omega) hfa
      refine ol_aload_n C dX11_ask_214 rfl rfl (by first | exact ol_isq_r _ | exact ol_isq_q _ | exact ol_isq_n) ?_
      refine ol_iload_n C dX11_ask_215 rfl rfl ?_
      refine ol_iload C dX11_ask_216 rfl ?_
      refine ol_callV C (mm_arcsOf l D cA hL hV hg hI6 (M := 6 * k) hB ht hl0 (by omega) (by rw [ol_u2_a _ _ n10_35]; exact y1) (by rw [ol_u2_a _ _ n30_35]; exact y2)) hm.1 hm.2 rfl wd_746 wd_4 wd_743 wd_745 wq_20 mh_X11_arcsOf (by decide) rfl (by first | exact Nat.le_of_ble_eq_true rfl | simp [ol_rfc, Value.category]) dX11_ask_218 (fun v_218 ro_218 I_218 F_218 hh_218 => ?_)
      obtain ⟨rfl, rfl, hh⟩ := hh_218
      rcases hh with ⟨h1, rfl, h2, h3⟩ | ⟨u, z, I2, h1, hz, rfl, h2, rfl⟩
      · refine ol_st (st' := [.int _]) rfl ?_
        refine ol_iret C hret hlk rfl (by decide) (by decide) dX11_ask_221 (hp _ _ (Or.inl ?_))
        have eR := sp_n2_none (k := k) (b := b) hv0 hl0 h1
        rw [eR]
        exact ⟨rfl, rfl, h2.fa2 _ (Nat.le_refl _), by rw [h3, ol_u2_a _ _ n41_35]; exact k41⟩
      · refine ol_st (st' := [.int _]) rfl ?_
        refine ol_iret C hret hlk rfl (by decide) (by decide) dX11_ask_221 (hp _ _ (Or.inr ⟨u, none, z, I2, k + 1, k + 1, ?_⟩))
        have eR := sp_n2_some (k := k) (b := b) hv0 hl0 h1
        rw [eR]
        exact ⟨rfl, by rcases hz with rfl | rfl <;> simp, rfl, h2, rfl⟩
    · have hl0 : ¬ sp_lc So T P t = 0 := fun q => c_183 ((sp_l0 So T P t).mpr q)
      refine ol_aload_n C dX11_ask_186 rfl rfl (by first | exact ol_isq_r _ | exact ol_isq_q _ | exact ol_isq_n) ?_
      refine ol_iload C dX11_ask_187 rfl ?_
      refine ol_ldc (v := (-1000009)) C wd_677 dX11_ask_189 ?_
      refine ol_iload C dX11_ask_191 rfl ?_
      refine ol_callV C (mm_refuse l D cA hL (nI t) (-1000009) (sp_lc So T P t)) hm.1 hm.2 rfl wd_733 wd_4 wd_730 wd_732 wq_17 mh_X11_refuse (by decide) rfl (by first | exact Nat.le_of_ble_eq_true rfl | simp [ol_rfc, Value.category]) dX11_ask_193 (ol_xi ?_)
      exact ol_iret C hret hlk rfl (by decide) (by decide) dX11_ask_196 (hp _ _ (Or.inr ⟨t, none, sp_lc So T P t, _, _, _, by unfold sp_n2; rw [ol_if_t hv0]; unfold sp_n3; rw [ol_if_f hl0], sp_lc_r hl0, rfl, by unfold sp_n2; rw [ol_if_t hv0]; unfold sp_n3; rw [ol_if_f hl0]; exact hI5, rfl⟩))
  · have hv0 : ¬ sp_vc So T t = 0 := fun q => c_133 ((sp_v0 So T t).mpr q)
    refine ol_aload_n C dX11_ask_136 rfl rfl (by first | exact ol_isq_r _ | exact ol_isq_q _ | exact ol_isq_n) ?_
    refine ol_iload C dX11_ask_137 rfl ?_
    refine ol_ldc (v := (-1000009)) C wd_677 dX11_ask_139 ?_
    refine ol_iload C dX11_ask_141 rfl ?_
    refine ol_callV C (mm_refuse l D cA hL (nI t) (-1000009) (sp_vc So T t)) hm.1 hm.2 rfl wd_733 wd_4 wd_730 wd_732 wq_17 mh_X11_refuse (by decide) rfl (by first | exact Nat.le_of_ble_eq_true rfl | simp [ol_rfc, Value.category]) dX11_ask_143 (ol_xi ?_)
    exact ol_iret C hret hlk rfl (by decide) (by decide) dX11_ask_146 (hp _ _ (Or.inr ⟨t, none, sp_vc So T t, _, _, _, by unfold sp_n2; rw [ol_if_f hv0], sp_vc_r hv0, rfl, by unfold sp_n2; rw [ol_if_f hv0]; exact hI2, rfl⟩))
