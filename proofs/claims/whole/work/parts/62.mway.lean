/-- far, as the reference holds it -/
def ol_wf (ad : Nat → Nat) (I0 I : Nat → Nat → Int32) (f : Nat → Option Nat) : Prop := (∀ x, x < 40 → I (ad 42) x = ol_e (f x)) ∧ ∀ a, a ≠ ad 42 → I a = I0 a
theorem ol_wf.up {ad : Nat → Nat} {I0 I : Nat → Nat → Int32} {f : Nat → Option Nat} (h : ol_wf ad I0 I f) (m k : Nat) : ol_wf ad I0 (ol_u2 I (ad 42) m (nI k)) (va_up f m (some k)) := by
  refine ⟨fun x hx => ?_, fun a ha => by rw [ol_u2_a _ _ ha]; exact h.2 a ha⟩
  by_cases e : x = m
  · subst e
    rw [ol_u2_s, va_up_self]
    rfl
  · rw [ol_u2_k _ _ e, va_up_ne _ _ e]
    exact h.1 x hx
theorem ol_wf.same {ad : Nat → Nat} {I0 I : Nat → Nat → Int32} {f : Nat → Option Nat} (h : ol_wf ad I0 I f) (m : Nat) : ol_wf ad I0 (ol_u2 I (ad 42) m (I (ad 42) m)) f := by
  refine ⟨fun x hx => ?_, fun a ha => by rw [ol_u2_a _ _ ha]; exact h.2 a ha⟩
  by_cases e : x = m
  · subst e
    rw [ol_u2_s]
    exact h.1 x hx
  · rw [ol_u2_k _ _ e]
    exact h.1 x hx

set_option maxRecDepth 100000 in
set_option maxHeartbeats 4000000 in
theorem lp_wa {p : Program} {l : Launch} {e : Env} {R : Room} {s : State} {m : MethodId} {args : Array Value} {below : List Frame} {meth : Method} {c : Code} {D : va_G} {cA : Nat → ClassId} {A : Nat → Prop} {Q : State → Prop} {ro : Nat → Nat} {F : Nat → Nat → Option Nat} {cells slots : Nat} (C : ol_Cx p s m args c cX11_way 7 yX11_way.cls D cA A) {ad : Nat → Nat} (hL : ol_L ro F ad) {n w : Nat} {b : ol_B} (hW : ol_GW n b) {I0 : Nat → Nat → Int32} (hw : I0 (ad 10) 12 = nI w) (hw2 : w < 2) (hG : ol_MG (ol_vf I0 ad) w b (b.2.1 0 0) (b.2.1 0 0 + 1)) {fr : Nat} (hfr : fr < b.2.1 0 0) {dl mm : Nat} {to : Int32} (hmm : mm < b.2.1 0 0) (hdl : dl < b.2.1 0 0) (ex : ∀ (I : Nat → Nat → Int32) (f : Nat → Option Nat), ol_wf ad I0 I f → ol_LM fr (b.2.1 3) (b.2.1 2) f dl (mm + 1) (b.2.1 2 (mm + 1)) → ol_W p l e R s m args below meth c D cA A Q 7 ro I F cells slots 188 [some (.ref (ad 10)), some (.int (nI fr)), some (.int to), some (.int (nI dl)), some (.int (nI mm)), none, none] []) : ∀ (d a : Nat) (I : Nat → Nat → Int32) (f : Nat → Option Nat) (x6 : Option Value), a + d = b.2.1 2 (mm + 1) → b.2.1 2 mm ≤ a → ol_wf ad I0 I f → ol_LM fr (b.2.1 3) (b.2.1 2) f dl mm a → ol_W p l e R s m args below meth c D cA A Q 7 ro I F cells slots 99 [some (.ref (ad 10)), some (.int (nI fr)), some (.int to), some (.int (nI dl)), some (.int (nI mm)), some (.int (nI a)), x6] [] := by
  have hm : ol_is ro (ad 10) (.inl 9) := hL.is 10 (by decide) (by decide) rfl
  have f_nodes : F (ad 10) 13 = some (ad 31) := hL.mf 13 31 (by decide)
  have i_nodes : ol_is ro (ad 31) (.inr (0, 2)) := hL.is 31 (by decide) (by decide) rfl
  have f_firstArc : F (ad 10) 17 = some (ad 35) := hL.mf 17 35 (by decide)
  have i_firstArc : ol_is ro (ad 35) (.inr (0, 82)) := hL.is 35 (by decide) (by decide) rfl
  have f_arcTo : F (ad 10) 19 = some (ad 37) := hL.mf 19 37 (by decide)
  have i_arcTo : ol_is ro (ad 37) (.inr (0, 480)) := hL.is 37 (by decide) (by decide) rfl
  have f_far : F (ad 10) 28 = some (ad 42) := hL.mf 28 42 (by decide)
  have i_far : ol_is ro (ad 42) (.inr (0, 40)) := hL.is 42 (by decide) (by decide) rfl
  have w1 := hW.1
  have w4 := hW.2.2.2.1
  have hwl := sp_wk_lt hW hfr
  have n10_42 : ad 10 ≠ ad 42 := hL.ne (by decide) (by decide) (by decide)
  have n31_42 : ad 31 ≠ ad 42 := hL.ne (by decide) (by decide) (by decide)
  have n35_42 : ad 35 ≠ ad 42 := hL.ne (by decide) (by decide) (by decide)
  have n37_42 : ad 37 ≠ ad 42 := hL.ne (by decide) (by decide) (by decide)
  intro d
  induction d with
  | zero =>
    intro a I f x6 hk ha hS hQ
    have hk6 : a = b.2.1 2 (mm + 1) := by omega
    subst hk6
    refine ol_iload C dX11_way_99 rfl ?_
    refine ol_aload_n C dX11_way_101 rfl rfl (by first | exact ol_isq_r _ | exact ol_isq_q _ | exact ol_isq_n) ?_
    refine ol_gR (k := 17) C (by assumption) rfl rfl wd_597 (.inl rfl) dX11_way_102 ?_
    refine ol_rf (by assumption) ?_
    refine ol_bipush (v := 41) C dX11_way_105 (by decide) ?_
    refine ol_aload_n C dX11_way_107 rfl rfl (by first | exact ol_isq_r _ | exact ol_isq_q _ | exact ol_isq_n) ?_
    refine ol_gI (k := 12) C (by assumption) rfl rfl wd_592 (.inl rfl) dX11_way_108 ?_
    refine ol_ti (y := nI w) (by rw [hS.2 _ n10_42]; exact hw) ?_
    refine ol_imul C dX11_way_111 ?_
    refine ol_iload C dX11_way_112 rfl ?_
    refine ol_iadd C dX11_way_114 ?_
    refine ol_iconst (v := 1) C dX11_way_115 (by decide) ?_
    refine ol_iadd C dX11_way_116 ?_
    refine ol_lI (41 * w + (mm + 1)) C (by assumption) (ol_maa (v := 1) rfl) (by omega) (by decide) dX11_way_117 ?_
    refine ol_ti (y := nI (b.2.1 2 (mm + 1))) (by rw [hS.2 _ n35_42]; exact hG.2.2.2.2.2.2.1 (mm + 1) (by omega)) ?_
    refine ol_icmp_ge (tgt := 188) C dX11_way_118 (by decide) (fun c_118 => ?_) (fun c_118 => absurd (Int32.le_refl (nI (b.2.1 2 (mm + 1)))) c_118)
    refine ol_lv (lv' := [some (.ref (ad 10)), some (.int (nI fr)), some (.int to), some (.int (nI dl)), some (.int (nI mm)), none, none]) (by intro i v h; rcases i with _|_|_|_|_|_|_|i <;> first | exact h | (simp at h)) ?_
    exact ex I f hS hQ.next
  | succ d ih =>
    intro a I f x6 hk ha hS hQ
    have hlt : a < b.2.1 2 (mm + 1) := by omega
    have hfl := hW.fl (j := mm + 1) (by omega)
    have hE := hW.2.2.2.2.1 a (by omega)
    have hbd : ∀ x u, f x = some u → u < 2 ^ 31 := fun x u hu => by
      have := (hQ.1 x u hu).2
      omega
    refine ol_iload C dX11_way_99 rfl ?_
    refine ol_aload_n C dX11_way_101 rfl rfl (by first | exact ol_isq_r _ | exact ol_isq_q _ | exact ol_isq_n) ?_
    refine ol_gR (k := 17) C (by assumption) rfl rfl wd_597 (.inl rfl) dX11_way_102 ?_
    refine ol_rf (by assumption) ?_
    refine ol_bipush (v := 41) C dX11_way_105 (by decide) ?_
    refine ol_aload_n C dX11_way_107 rfl rfl (by first | exact ol_isq_r _ | exact ol_isq_q _ | exact ol_isq_n) ?_
    refine ol_gI (k := 12) C (by assumption) rfl rfl wd_592 (.inl rfl) dX11_way_108 ?_
    refine ol_ti (y := nI w) (by rw [hS.2 _ n10_42]; exact hw) ?_
    refine ol_imul C dX11_way_111 ?_
    refine ol_iload C dX11_way_112 rfl ?_
    refine ol_iadd C dX11_way_114 ?_
    refine ol_iconst (v := 1) C dX11_way_115 (by decide) ?_
    refine ol_iadd C dX11_way_116 ?_
    refine ol_lI (41 * w + (mm + 1)) C (by assumption) (ol_maa (v := 1) rfl) (by omega) (by decide) dX11_way_117 ?_
    refine ol_ti (y := nI (b.2.1 2 (mm + 1))) (by rw [hS.2 _ n35_42]; exact hG.2.2.2.2.2.2.1 (mm + 1) (by omega)) ?_
    refine ol_icmp_ge (tgt := 188) C dX11_way_118 (by decide) (fun c_118 => absurd c_118 (nI_ge hlt (by omega))) (fun c_118 => ?_)
    refine ol_aload_n C dX11_way_121 rfl rfl (by first | exact ol_isq_r _ | exact ol_isq_q _ | exact ol_isq_n) ?_
    refine ol_gR (k := 28) C (by assumption) rfl rfl wd_608 (.inl rfl) dX11_way_122 ?_
    refine ol_rf (by assumption) ?_
    refine ol_iload C dX11_way_125 rfl ?_
    refine ol_lI mm C (by assumption) rfl (by omega) (by decide) dX11_way_127 ?_
    refine ol_ti (hS.1 mm (by omega)) ?_
    refine ol_iload_n C dX11_way_128 rfl rfl ?_
    refine ol_icmp_ne (tgt := 188) C dX11_way_129 (by decide) (fun c_129 => ?_) (fun c_129 => ?_)
    · refine ol_lv (lv' := [some (.ref (ad 10)), some (.int (nI fr)), some (.int to), some (.int (nI dl)), some (.int (nI mm)), none, none]) (by intro i v h; rcases i with _|_|_|_|_|_|_|i <;> first | exact h | (simp at h)) ?_
      exact ex I f hS (hQ.skip (fun q => c_129 (by rw [q]; rfl)))
    · have hfm : f mm = some dl := (ol_e_eq (hbd mm) (by omega)).mp c_129
      refine ol_aload_n C dX11_way_132 rfl rfl (by first | exact ol_isq_r _ | exact ol_isq_q _ | exact ol_isq_n) ?_
      refine ol_gR (k := 19) C (by assumption) rfl rfl wd_599 (.inl rfl) dX11_way_133 ?_
      refine ol_rf (by assumption) ?_
      refine ol_sipush (v := 240) C dX11_way_136 (by decide) ?_
      refine ol_aload_n C dX11_way_139 rfl rfl (by first | exact ol_isq_r _ | exact ol_isq_q _ | exact ol_isq_n) ?_
      refine ol_gI (k := 12) C (by assumption) rfl rfl wd_592 (.inl rfl) dX11_way_140 ?_
      refine ol_ti (y := nI w) (by rw [hS.2 _ n10_42]; exact hw) ?_
      refine ol_imul C dX11_way_143 ?_
      refine ol_iload C dX11_way_144 rfl ?_
      refine ol_iadd C dX11_way_146 ?_
      refine ol_lI (240 * w + a) C (by assumption) (ol_ma rfl) (by omega) (by decide) dX11_way_147 ?_
      refine ol_ti (y := nI (b.2.1 3 a)) (by rw [hS.2 _ n37_42]; exact (hG.2.2.2.2.2.2.2 a (by omega)).1) ?_
      refine ol_istore C dX11_way_148 (by decide) ?_
      refine ol_aload_n C dX11_way_150 rfl rfl (by first | exact ol_isq_r _ | exact ol_isq_q _ | exact ol_isq_n) ?_
      refine ol_gR (k := 28) C (by assumption) rfl rfl wd_608 (.inl rfl) dX11_way_151 ?_
      refine ol_rf (by assumption) ?_
      refine ol_iload C dX11_way_154 rfl ?_
      refine ol_aload_n C dX11_way_156 rfl rfl (by first | exact ol_isq_r _ | exact ol_isq_q _ | exact ol_isq_n) ?_
      refine ol_gR (k := 28) C (by assumption) rfl rfl wd_608 (.inl rfl) dX11_way_157 ?_
      refine ol_rf (by assumption) ?_
      refine ol_iload C dX11_way_160 rfl ?_
      refine ol_lI (b.2.1 3 a) C (by assumption) rfl (by omega) (by decide) dX11_way_162 ?_
      have hfe := hS.1 (b.2.1 3 a) (by omega)
      refine ol_ldc (v := (-1000009)) C wd_677 dX11_way_163 ?_
      refine ol_icmp_ne (tgt := 174) C dX11_way_165 (by decide) (fun c_165 => ?_) (fun c_165 => ?_)
      · rw [hfe] at c_165
        obtain ⟨kb, hkb, -⟩ := ol_e_s c_165
        have hQ2 := hQ.old (by rw [hkb]; simp)
        refine ol_aload_n C dX11_way_174 rfl rfl (by first | exact ol_isq_r _ | exact ol_isq_q _ | exact ol_isq_n) ?_
        refine ol_gR (k := 28) C (by assumption) rfl rfl wd_608 (.inl rfl) dX11_way_175 ?_
        refine ol_rf (by assumption) ?_
        refine ol_iload C dX11_way_178 rfl ?_
        refine ol_lI (b.2.1 3 a) C (by assumption) rfl (by omega) (by decide) dX11_way_180 ?_
        refine ol_sI (b.2.1 3 a) C (by assumption) rfl (by omega) (by decide) dX11_way_181 ?_
        refine ol_iincN C dX11_way_182 rfl (by decide) ?_
        refine ol_goto (tgt := 99) C dX11_way_185 (by decide) ?_
        exact ih (a + 1) _ _ _ (by omega) (by omega) (hS.same (b.2.1 3 a)) hQ2
      · rw [hfe] at c_165
        have hno := ol_e_n (hbd _) c_165
        have hQ2 := hQ.new hno hfm ha hlt
        refine ol_iload_n C dX11_way_168 rfl rfl ?_
        refine ol_iconst (v := 1) C dX11_way_169 (by decide) ?_
        refine ol_iadd C dX11_way_170 ?_
        refine ol_ti (nI_1 dl) ?_
        refine ol_goto (tgt := 181) C dX11_way_171 (by decide) ?_
        refine ol_sI (b.2.1 3 a) C (by assumption) rfl (by omega) (by decide) dX11_way_181 ?_
        refine ol_iincN C dX11_way_182 rfl (by decide) ?_
        refine ol_goto (tgt := 99) C dX11_way_185 (by decide) ?_
        exact ih (a + 1) _ _ _ (by omega) (by omega) (hS.up (b.2.1 3 a) (dl + 1)) hQ2

set_option maxRecDepth 100000 in
set_option maxHeartbeats 4000000 in
theorem lp_wn {p : Program} {l : Launch} {e : Env} {R : Room} {s : State} {m : MethodId} {args : Array Value} {below : List Frame} {meth : Method} {c : Code} {D : va_G} {cA : Nat → ClassId} {A : Nat → Prop} {Q : State → Prop} {ro : Nat → Nat} {F : Nat → Nat → Option Nat} {cells slots : Nat} (C : ol_Cx p s m args c cX11_way 7 yX11_way.cls D cA A) {ad : Nat → Nat} (hL : ol_L ro F ad) {n w : Nat} {b : ol_B} (hW : ol_GW n b) {I0 : Nat → Nat → Int32} (hw : I0 (ad 10) 12 = nI w) (hw2 : w < 2) (hG : ol_MG (ol_vf I0 ad) w b (b.2.1 0 0) (b.2.1 0 0 + 1)) {fr : Nat} (hfr : fr < b.2.1 0 0) {dl : Nat} {to : Int32} (hdl : dl < b.2.1 0 0) (ex : ∀ (I : Nat → Nat → Int32) (f : Nat → Option Nat), ol_wf ad I0 I f → ol_LV fr (b.2.1 3) (b.2.1 2) f (dl + 1) → ol_W p l e R s m args below meth c D cA A Q 7 ro I F cells slots 194 [some (.ref (ad 10)), some (.int (nI fr)), some (.int to), some (.int (nI dl)), none, none, none] []) : ∀ (d mm : Nat) (I : Nat → Nat → Int32) (f : Nat → Option Nat), mm + d = b.2.1 0 0 → ol_wf ad I0 I f → ol_LM fr (b.2.1 3) (b.2.1 2) f dl mm (b.2.1 2 mm) → ol_W p l e R s m args below meth c D cA A Q 7 ro I F cells slots 68 [some (.ref (ad 10)), some (.int (nI fr)), some (.int to), some (.int (nI dl)), some (.int (nI mm)), none, none] [] := by
  have hm : ol_is ro (ad 10) (.inl 9) := hL.is 10 (by decide) (by decide) rfl
  have f_nodes : F (ad 10) 13 = some (ad 31) := hL.mf 13 31 (by decide)
  have i_nodes : ol_is ro (ad 31) (.inr (0, 2)) := hL.is 31 (by decide) (by decide) rfl
  have f_firstArc : F (ad 10) 17 = some (ad 35) := hL.mf 17 35 (by decide)
  have i_firstArc : ol_is ro (ad 35) (.inr (0, 82)) := hL.is 35 (by decide) (by decide) rfl
  have f_arcTo : F (ad 10) 19 = some (ad 37) := hL.mf 19 37 (by decide)
  have i_arcTo : ol_is ro (ad 37) (.inr (0, 480)) := hL.is 37 (by decide) (by decide) rfl
  have f_far : F (ad 10) 28 = some (ad 42) := hL.mf 28 42 (by decide)
  have i_far : ol_is ro (ad 42) (.inr (0, 40)) := hL.is 42 (by decide) (by decide) rfl
  have w1 := hW.1
  have w4 := hW.2.2.2.1
  have hwl := sp_wk_lt hW hfr
  have n10_42 : ad 10 ≠ ad 42 := hL.ne (by decide) (by decide) (by decide)
  have n31_42 : ad 31 ≠ ad 42 := hL.ne (by decide) (by decide) (by decide)
  have n35_42 : ad 35 ≠ ad 42 := hL.ne (by decide) (by decide) (by decide)
  have n37_42 : ad 37 ≠ ad 42 := hL.ne (by decide) (by decide) (by decide)
  intro d
  induction d with
  | zero =>
    intro mm I f hk hS hQ
    have hk6 : mm = b.2.1 0 0 := by omega
    subst hk6
    refine ol_iload C dX11_way_68 rfl ?_
    refine ol_aload_n C dX11_way_70 rfl rfl (by first | exact ol_isq_r _ | exact ol_isq_q _ | exact ol_isq_n) ?_
    refine ol_gR (k := 13) C (by assumption) rfl rfl wd_593 (.inl rfl) dX11_way_71 ?_
    refine ol_rf (by assumption) ?_
    refine ol_aload_n C dX11_way_74 rfl rfl (by first | exact ol_isq_r _ | exact ol_isq_q _ | exact ol_isq_n) ?_
    refine ol_gI (k := 12) C (by assumption) rfl rfl wd_592 (.inl rfl) dX11_way_75 ?_
    refine ol_ti (y := nI w) (by rw [hS.2 _ n10_42]; exact hw) ?_
    refine ol_lI w C (by assumption) rfl hw2 (by decide) dX11_way_78 ?_
    refine ol_ti (y := nI (b.2.1 0 0)) (by rw [hS.2 _ n31_42]; exact hG.1) ?_
    refine ol_icmp_ge (tgt := 194) C dX11_way_79 (by decide) (fun c_79 => ?_) (fun c_79 => absurd (Int32.le_refl (nI (b.2.1 0 0))) c_79)
    refine ol_lv (lv' := [some (.ref (ad 10)), some (.int (nI fr)), some (.int to), some (.int (nI dl)), none, none, none]) (by intro i v h; rcases i with _|_|_|_|_|_|_|i <;> first | exact h | (simp at h)) ?_
    exact ex I f hS (hQ.fin hwl)
  | succ d ih =>
    intro mm I f hk hS hQ
    have hmm : mm < b.2.1 0 0 := by omega
    have hmo := hW.2.2.2.2.2.2.1 mm hmm
    refine ol_iload C dX11_way_68 rfl ?_
    refine ol_aload_n C dX11_way_70 rfl rfl (by first | exact ol_isq_r _ | exact ol_isq_q _ | exact ol_isq_n) ?_
    refine ol_gR (k := 13) C (by assumption) rfl rfl wd_593 (.inl rfl) dX11_way_71 ?_
    refine ol_rf (by assumption) ?_
    refine ol_aload_n C dX11_way_74 rfl rfl (by first | exact ol_isq_r _ | exact ol_isq_q _ | exact ol_isq_n) ?_
    refine ol_gI (k := 12) C (by assumption) rfl rfl wd_592 (.inl rfl) dX11_way_75 ?_
    refine ol_ti (y := nI w) (by rw [hS.2 _ n10_42]; exact hw) ?_
    refine ol_lI w C (by assumption) rfl hw2 (by decide) dX11_way_78 ?_
    refine ol_ti (y := nI (b.2.1 0 0)) (by rw [hS.2 _ n31_42]; exact hG.1) ?_
    refine ol_icmp_ge (tgt := 194) C dX11_way_79 (by decide) (fun c_79 => absurd c_79 (nI_ge hmm (by omega))) (fun c_79 => ?_)
    refine ol_aload_n C dX11_way_82 rfl rfl (by first | exact ol_isq_r _ | exact ol_isq_q _ | exact ol_isq_n) ?_
    refine ol_gR (k := 17) C (by assumption) rfl rfl wd_597 (.inl rfl) dX11_way_83 ?_
    refine ol_rf (by assumption) ?_
    refine ol_bipush (v := 41) C dX11_way_86 (by decide) ?_
    refine ol_aload_n C dX11_way_88 rfl rfl (by first | exact ol_isq_r _ | exact ol_isq_q _ | exact ol_isq_n) ?_
    refine ol_gI (k := 12) C (by assumption) rfl rfl wd_592 (.inl rfl) dX11_way_89 ?_
    refine ol_ti (y := nI w) (by rw [hS.2 _ n10_42]; exact hw) ?_
    refine ol_imul C dX11_way_92 ?_
    refine ol_iload C dX11_way_93 rfl ?_
    refine ol_iadd C dX11_way_95 ?_
    refine ol_lI (41 * w + mm) C (by assumption) (ol_ma rfl) (by omega) (by decide) dX11_way_96 ?_
    refine ol_ti (y := nI (b.2.1 2 mm)) (by rw [hS.2 _ n35_42]; exact hG.2.2.2.2.2.2.1 mm (by omega)) ?_
    refine ol_istore C dX11_way_97 (by decide) ?_
    refine lp_wa C hL hW hw hw2 hG hfr hmm hdl (fun I5 f5 hS5 hQ5 => ?_) (b.2.1 2 (mm + 1) - b.2.1 2 mm) (b.2.1 2 mm) I f _ (by omega) (Nat.le_refl _) hS hQ
    refine ol_iincN C dX11_way_188 rfl (by decide) ?_
    refine ol_goto (tgt := 68) C dX11_way_191 (by decide) ?_
    exact ih (mm + 1) I5 f5 (by omega) hS5 hQ5

set_option maxRecDepth 100000 in
set_option maxHeartbeats 4000000 in
theorem lp_wd {p : Program} {l : Launch} {e : Env} {R : Room} {s : State} {m : MethodId} {args : Array Value} {below : List Frame} {meth : Method} {c : Code} {D : va_G} {cA : Nat → ClassId} {A : Nat → Prop} {Q : State → Prop} {ro : Nat → Nat} {F : Nat → Nat → Option Nat} {cells slots : Nat} (C : ol_Cx p s m args c cX11_way 7 yX11_way.cls D cA A) {ad : Nat → Nat} (hL : ol_L ro F ad) {n w : Nat} {b : ol_B} (hW : ol_GW n b) {I0 : Nat → Nat → Int32} (hw : I0 (ad 10) 12 = nI w) (hw2 : w < 2) (hG : ol_MG (ol_vf I0 ad) w b (b.2.1 0 0) (b.2.1 0 0 + 1)) {fr : Nat} (hfr : fr < b.2.1 0 0) {to : Int32} (ex : ∀ (I : Nat → Nat → Int32) (f : Nat → Option Nat), ol_wf ad I0 I f → ol_LV fr (b.2.1 3) (b.2.1 2) f (b.2.1 0 0) → ol_W p l e R s m args below meth c D cA A Q 7 ro I F cells slots 200 [some (.ref (ad 10)), some (.int (nI fr)), some (.int to), some (.int (nI (b.2.1 0 0))), none, none, none] []) : ∀ (d dl : Nat) (I : Nat → Nat → Int32) (f : Nat → Option Nat), dl + d = b.2.1 0 0 → ol_wf ad I0 I f → ol_LV fr (b.2.1 3) (b.2.1 2) f dl → ol_W p l e R s m args below meth c D cA A Q 7 ro I F cells slots 52 [some (.ref (ad 10)), some (.int (nI fr)), some (.int to), some (.int (nI dl)), none, none, none] [] := by
  have hm : ol_is ro (ad 10) (.inl 9) := hL.is 10 (by decide) (by decide) rfl
  have f_nodes : F (ad 10) 13 = some (ad 31) := hL.mf 13 31 (by decide)
  have i_nodes : ol_is ro (ad 31) (.inr (0, 2)) := hL.is 31 (by decide) (by decide) rfl
  have f_firstArc : F (ad 10) 17 = some (ad 35) := hL.mf 17 35 (by decide)
  have i_firstArc : ol_is ro (ad 35) (.inr (0, 82)) := hL.is 35 (by decide) (by decide) rfl
  have f_arcTo : F (ad 10) 19 = some (ad 37) := hL.mf 19 37 (by decide)
  have i_arcTo : ol_is ro (ad 37) (.inr (0, 480)) := hL.is 37 (by decide) (by decide) rfl
  have f_far : F (ad 10) 28 = some (ad 42) := hL.mf 28 42 (by decide)
  have i_far : ol_is ro (ad 42) (.inr (0, 40)) := hL.is 42 (by decide) (by decide) rfl
  have w1 := hW.1
  have w4 := hW.2.2.2.1
  have hwl := sp_wk_lt hW hfr
  have n10_42 : ad 10 ≠ ad 42 := hL.ne (by decide) (by decide) (by decide)
  have n31_42 : ad 31 ≠ ad 42 := hL.ne (by decide) (by decide) (by decide)
  have n35_42 : ad 35 ≠ ad 42 := hL.ne (by decide) (by decide) (by decide)
  have n37_42 : ad 37 ≠ ad 42 := hL.ne (by decide) (by decide) (by decide)
  intro d
  induction d with
  | zero =>
    intro dl I f hk hS hQ
    have hk6 : dl = b.2.1 0 0 := by omega
    subst hk6
    refine ol_iload_n C dX11_way_52 rfl rfl ?_
    refine ol_aload_n C dX11_way_53 rfl rfl (by first | exact ol_isq_r _ | exact ol_isq_q _ | exact ol_isq_n) ?_
    refine ol_gR (k := 13) C (by assumption) rfl rfl wd_593 (.inl rfl) dX11_way_54 ?_
    refine ol_rf (by assumption) ?_
    refine ol_aload_n C dX11_way_57 rfl rfl (by first | exact ol_isq_r _ | exact ol_isq_q _ | exact ol_isq_n) ?_
    refine ol_gI (k := 12) C (by assumption) rfl rfl wd_592 (.inl rfl) dX11_way_58 ?_
    refine ol_ti (y := nI w) (by rw [hS.2 _ n10_42]; exact hw) ?_
    refine ol_lI w C (by assumption) rfl hw2 (by decide) dX11_way_61 ?_
    refine ol_ti (y := nI (b.2.1 0 0)) (by rw [hS.2 _ n31_42]; exact hG.1) ?_
    refine ol_icmp_ge (tgt := 200) C dX11_way_62 (by decide) (fun c_62 => ?_) (fun c_62 => absurd (Int32.le_refl (nI (b.2.1 0 0))) c_62)
    exact ex I f hS hQ
  | succ d ih =>
    intro dl I f hk hS hQ
    have hdl : dl < b.2.1 0 0 := by omega
    refine ol_iload_n C dX11_way_52 rfl rfl ?_
    refine ol_aload_n C dX11_way_53 rfl rfl (by first | exact ol_isq_r _ | exact ol_isq_q _ | exact ol_isq_n) ?_
    refine ol_gR (k := 13) C (by assumption) rfl rfl wd_593 (.inl rfl) dX11_way_54 ?_
    refine ol_rf (by assumption) ?_
    refine ol_aload_n C dX11_way_57 rfl rfl (by first | exact ol_isq_r _ | exact ol_isq_q _ | exact ol_isq_n) ?_
    refine ol_gI (k := 12) C (by assumption) rfl rfl wd_592 (.inl rfl) dX11_way_58 ?_
    refine ol_ti (y := nI w) (by rw [hS.2 _ n10_42]; exact hw) ?_
    refine ol_lI w C (by assumption) rfl hw2 (by decide) dX11_way_61 ?_
    refine ol_ti (y := nI (b.2.1 0 0)) (by rw [hS.2 _ n31_42]; exact hG.1) ?_
    refine ol_icmp_ge (tgt := 200) C dX11_way_62 (by decide) (fun c_62 => absurd c_62 (nI_ge hdl (by omega))) (fun c_62 => ?_)
    refine ol_iconst (v := 0) C dX11_way_65 (by decide) ?_
    refine ol_istore C dX11_way_66 (by decide) ?_
    refine ol_lv (lv' := [some (.ref (ad 10)), some (.int (nI fr)), some (.int to), some (.int (nI dl)), some (.int (nI 0)), none, none]) (by intro i v h; rcases i with _|_|_|_|_|_|_|i <;> first | exact h | (simp at h)) ?_
    refine lp_wn C hL hW hw hw2 hG hfr hdl (fun I5 f5 hS5 hQ5 => ?_) (b.2.1 0 0) 0 I f (by omega) hS hQ.begin
    refine ol_iincN C dX11_way_194 rfl (by decide) ?_
    refine ol_goto (tgt := 52) C dX11_way_197 (by decide) ?_
    exact ih (dl + 1) I5 f5 (by omega) hS5 hQ5

set_option maxRecDepth 100000 in
set_option maxHeartbeats 4000000 in
theorem lp_wi {p : Program} {l : Launch} {e : Env} {R : Room} {s : State} {m : MethodId} {args : Array Value} {below : List Frame} {meth : Method} {c : Code} {D : va_G} {cA : Nat → ClassId} {A : Nat → Prop} {Q : State → Prop} {ro : Nat → Nat} {F : Nat → Nat → Option Nat} {cells slots : Nat} (C : ol_Cx p s m args c cX11_way 7 yX11_way.cls D cA A) {ad : Nat → Nat} (hL : ol_L ro F ad) {I0 : Nat → Nat → Int32} {fr : Nat} {to : Int32} (hfr : fr < 40) (ex : ∀ (I : Nat → Nat → Int32), ol_wf ad I0 I (va_up (fun _ => none) fr (some 0)) → ol_W p l e R s m args below meth c D cA A Q 7 ro I F cells slots 50 [some (.ref (ad 10)), some (.int (nI fr)), some (.int to), some (.int (nI 40)), none, none, none] []) : ∀ (d k : Nat) (I : Nat → Nat → Int32), k + d = 40 → (∀ x, x < k → I (ad 42) x = ol_e ((va_up (fun _ => none) fr (some 0)) x)) → (∀ a, a ≠ ad 42 → I a = I0 a) → ol_W p l e R s m args below meth c D cA A Q 7 ro I F cells slots 21 [some (.ref (ad 10)), some (.int (nI fr)), some (.int to), some (.int (nI k)), none, none, none] [] := by
  have hm : ol_is ro (ad 10) (.inl 9) := hL.is 10 (by decide) (by decide) rfl
  have f_nodes : F (ad 10) 13 = some (ad 31) := hL.mf 13 31 (by decide)
  have i_nodes : ol_is ro (ad 31) (.inr (0, 2)) := hL.is 31 (by decide) (by decide) rfl
  have f_firstArc : F (ad 10) 17 = some (ad 35) := hL.mf 17 35 (by decide)
  have i_firstArc : ol_is ro (ad 35) (.inr (0, 82)) := hL.is 35 (by decide) (by decide) rfl
  have f_arcTo : F (ad 10) 19 = some (ad 37) := hL.mf 19 37 (by decide)
  have i_arcTo : ol_is ro (ad 37) (.inr (0, 480)) := hL.is 37 (by decide) (by decide) rfl
  have f_far : F (ad 10) 28 = some (ad 42) := hL.mf 28 42 (by decide)
  have i_far : ol_is ro (ad 42) (.inr (0, 40)) := hL.is 42 (by decide) (by decide) rfl
  intro d
  induction d with
  | zero =>
    intro k I hk h1 h2
    have hk6 : k = 40 := by omega
    subst hk6
    refine ol_iload_n C dX11_way_21 rfl rfl ?_
    refine ol_bipush (v := 40) C dX11_way_22 (by decide) ?_
    refine ol_icmp_ge (tgt := 50) C dX11_way_24 (by decide) (fun c_24 => ?_) (fun c_24 => absurd (show (40 : Int32) ≤ nI 40 by decide) c_24)
    exact ex I ⟨h1, h2⟩
  | succ d ih =>
    intro k I hk h1 h2
    have hk6 : k < 40 := by omega
    refine ol_iload_n C dX11_way_21 rfl rfl ?_
    refine ol_bipush (v := 40) C dX11_way_22 (by decide) ?_
    refine ol_icmp_ge (tgt := 50) C dX11_way_24 (by decide) (fun c_24 => absurd c_24 (nI_ge (b := 40) hk6 (by decide))) (fun c_24 => ?_)
    refine ol_aload_n C dX11_way_27 rfl rfl (by first | exact ol_isq_r _ | exact ol_isq_q _ | exact ol_isq_n) ?_
    refine ol_gR (k := 28) C (by assumption) rfl rfl wd_608 (.inl rfl) dX11_way_28 ?_
    refine ol_rf (by assumption) ?_
    refine ol_iload_n C dX11_way_31 rfl rfl ?_
    refine ol_iload_n C dX11_way_32 rfl rfl ?_
    refine ol_iload_n C dX11_way_33 rfl rfl ?_
    refine ol_icmp_ne (tgt := 41) C dX11_way_34 (by decide) (fun c_34 => ?_) (fun c_34 => ?_)
    · refine ol_ldc (v := (-1000009)) C wd_677 dX11_way_41 ?_
      refine ol_sI k C (by assumption) rfl hk6 (by decide) dX11_way_43 ?_
      refine ol_iincN C dX11_way_44 rfl (by decide) ?_
      refine ol_goto (tgt := 21) C dX11_way_47 (by decide) ?_
      refine ih (k + 1) _ (by omega) (fun x hx => ?_) (fun a ha => (ol_u2_a I _ ha).trans (h2 a ha))
      by_cases e : x = k
      · subst e
        rw [ol_u2_s]
        rw [va_up_ne _ _ (fun q => c_34 (by rw [q]))]
        rfl
      · rw [ol_u2_k I _ e]
        exact h1 x (by omega)
    · refine ol_iconst (v := 0) C dX11_way_37 (by decide) ?_
      refine ol_goto (tgt := 43) C dX11_way_38 (by decide) ?_
      refine ol_sI k C (by assumption) rfl hk6 (by decide) dX11_way_43 ?_
      refine ol_iincN C dX11_way_44 rfl (by decide) ?_
      refine ol_goto (tgt := 21) C dX11_way_47 (by decide) ?_
      refine ih (k + 1) _ (by omega) (fun x hx => ?_) (fun a ha => (ol_u2_a I _ ha).trans (h2 a ha))
      by_cases e : x = k
      · subst e
        rw [ol_u2_s]
        obtain rfl := (nI_eq (by omega) (by omega)).mp c_34
        rw [va_up_self]
        rfl
      · rw [ol_u2_k I _ e]
        exact h1 x (by omega)

set_option maxRecDepth 100000 in
set_option maxHeartbeats 4000000 in
theorem mm_way (l : Launch) (D : va_G) (cA : Nat → ClassId) {ro : Nat → Nat} {I : Nat → Nat → Int32} {F : Nat → Nat → Option Nat} {ad : Nat → Nat} (hL : ol_L ro F ad) {n w : Nat} {b : ol_B} (hW : ol_GW n b) (hw : I (ad 10) 12 = nI w) (hw2 : w < 2) (hnn : I (ad 31) w = nI (b.2.1 0 0)) (hG : b.2.1 0 0 ≠ 0 → ol_MG (ol_vf I ad) w b (b.2.1 0 0) (b.2.1 0 0 + 1)) (t u : Int32) : ol_M l D cA yX11_way cX11_way 7 (some FieldType.int) (ol_r 2 0 0) [.ref (ad 10), .int t, .int u] ro I F (fun v ro' I' F' => ro' = ro ∧ F' = F ∧ (∀ a, a ≠ ad 42 → I' a = I a) ∧ ∃ x, v = some (.int x) ∧ sp_wy b t u x) := by
  refine ol_M.of (by decide +kernel) (Nat.le_of_ble_eq_true rfl) (by simp [Value.category, ol_rfc]) ?_
  intro p e s m args below meth c C hret hlk hin
  have hm : ol_is ro (ad 10) (.inl 9) := hL.is 10 (by decide) (by decide) rfl
  have f_nodes : F (ad 10) 13 = some (ad 31) := hL.mf 13 31 (by decide)
  have i_nodes : ol_is ro (ad 31) (.inr (0, 2)) := hL.is 31 (by decide) (by decide) rfl
  have f_firstArc : F (ad 10) 17 = some (ad 35) := hL.mf 17 35 (by decide)
  have i_firstArc : ol_is ro (ad 35) (.inr (0, 82)) := hL.is 35 (by decide) (by decide) rfl
  have f_arcTo : F (ad 10) 19 = some (ad 37) := hL.mf 19 37 (by decide)
  have i_arcTo : ol_is ro (ad 37) (.inr (0, 480)) := hL.is 37 (by decide) (by decide) rfl
  have f_far : F (ad 10) 28 = some (ad 42) := hL.mf 28 42 (by decide)
  have i_far : ol_is ro (ad 42) (.inr (0, 40)) := hL.is 42 (by decide) (by decide) rfl
  have w1 := hW.1
  refine ol_aload_n C dX11_way_0 rfl rfl (by first | exact ol_isq_r _ | exact ol_isq_q _ | exact ol_isq_n) ?_
  refine ol_iload_n C dX11_way_1 rfl rfl ?_
  refine ol_callV C (mm_isNode l D cA hL hw hw2 hnn hW.1 t) hm.1 hm.2 rfl wd_766 wd_4 wd_763 wd_765 wq_22 mh_X11_isNode (by decide) rfl (by first | exact Nat.le_of_ble_eq_true rfl | simp [ol_rfc, Value.category]) dX11_way_2 (ol_xi ?_)
  refine ol_if_eq (tgt := 16) C dX11_way_5 (by decide) (fun c_5 => ?_) (fun c_5 => ?_)
  · have hno : ¬ (ol_k (b.2.1 0 0) t ∧ ol_k (b.2.1 0 0) u) := fun q => ol_p_0.mp c_5 q.1
    refine ol_ldc (v := (-1000001)) C wd_686 dX11_way_16 ?_
    exact ol_iret C hret hlk rfl (by decide) (by decide) dX11_way_18 ⟨rfl, rfl, fun _ _ => rfl, _, rfl, Or.inl ⟨hno, rfl⟩⟩
  · refine ol_aload_n C dX11_way_8 rfl rfl (by first | exact ol_isq_r _ | exact ol_isq_q _ | exact ol_isq_n) ?_
    refine ol_iload_n C dX11_way_9 rfl rfl ?_
    refine ol_callV C (mm_isNode l D cA hL hw hw2 hnn hW.1 u) hm.1 hm.2 rfl wd_766 wd_4 wd_763 wd_765 wq_22 mh_X11_isNode (by decide) rfl (by first | exact Nat.le_of_ble_eq_true rfl | simp [ol_rfc, Value.category]) dX11_way_10 (ol_xi ?_)
    refine ol_if_ne (tgt := 19) C dX11_way_13 (by decide) (fun c_13 => ?_) (fun c_13 => ?_)
    · obtain ⟨fr, hfr, rfl, -⟩ := ol_k_ix (ol_p_n.mp c_5) hW.1
      obtain ⟨to, hto, rfl, -⟩ := ol_k_ix (ol_p_n.mp c_13) hW.1
      have hG2 := hG (by omega)
      refine ol_iconst (v := 0) C dX11_way_19 (by decide) ?_
      refine ol_istore_n C dX11_way_20 rfl (by decide) ?_
      refine ol_lv (lv' := [some (.ref (ad 10)), some (.int (nI fr)), some (.int (nI to)), some (.int (nI 0)), none, none, none]) (by intro i v h; rcases i with _|_|_|_|_|_|_|i <;> first | exact h | (simp at h)) ?_
      refine lp_wi C hL (fr := fr) (I0 := I) (by omega) (fun I3 hS3 => ?_) 40 0 I rfl (fun x hx => absurd hx (Nat.not_lt_zero x)) (fun _ _ => rfl)
      refine ol_iconst (v := 0) C dX11_way_50 (by decide) ?_
      refine ol_istore_n C dX11_way_51 rfl (by decide) ?_
      refine ol_lv (lv' := [some (.ref (ad 10)), some (.int (nI fr)), some (.int (nI to)), some (.int (nI 0)), none, none, none]) (by intro i v h; rcases i with _|_|_|_|_|_|_|i <;> first | exact h | (simp at h)) ?_
      refine lp_wd C hL hW hw hw2 hG2 hfr (fun I5 f5 hS5 hQ5 => ?_) (b.2.1 0 0) 0 I3 _ (by omega) hS3 (ol_LV_init fr _ _)
      refine ol_aload_n C dX11_way_200 rfl rfl (by first | exact ol_isq_r _ | exact ol_isq_q _ | exact ol_isq_n) ?_
      refine ol_gR (k := 28) C (by assumption) rfl rfl wd_608 (.inl rfl) dX11_way_201 ?_
      refine ol_rf (by assumption) ?_
      refine ol_iload_n C dX11_way_204 rfl rfl ?_
      refine ol_lI to C (by assumption) rfl (by omega) (by decide) dX11_way_205 ?_
      refine ol_ti (hS5.1 to (by omega)) ?_
      exact ol_iret C hret hlk rfl (by decide) (by decide) dX11_way_206 ⟨rfl, rfl, hS5.2, _, rfl, Or.inr ⟨fr, to, f5, rfl, rfl, hfr, hto, hQ5.fin (sp_wk_lt hW hfr), rfl⟩⟩
    · have hno : ¬ (ol_k (b.2.1 0 0) t ∧ ol_k (b.2.1 0 0) u) := fun q => ol_p_0.mp (Classical.not_not.mp (fun z => z c_13)) q.2
      refine ol_ldc (v := (-1000001)) C wd_686 dX11_way_16 ?_
      exact ol_iret C hret hlk rfl (by decide) (by decide) dX11_way_18 ⟨rfl, rfl, fun _ _ => rfl, _, rfl, Or.inl ⟨hno, rfl⟩⟩
