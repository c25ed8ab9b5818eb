/-- steps and reached, as the class holds them -/
def ol_wm (ad : Nat → Nat) (g : Nat) (I0 I : Nat → Nat → Int32) (f : Nat → Option Nat) (q : Nat → Nat) (c : Nat) : Prop :=
  (∀ x, x < 40 → I (ad (g + 8)) x = ol_e (f x)) ∧ (∀ i, i < c → I (ad (g + 9)) i = nI (q i)) ∧ (∀ i k, i < c → f (q i) = some k → k ≤ i) ∧ ∀ a, a ≠ ad (g + 8) → a ≠ ad (g + 9) → I a = I0 a
theorem ol_wm.new {ad : Nat → Nat} {g : Nat} {I0 I : Nat → Nat → Int32} {f : Nat → Option Nat} {q : Nat → Nat} {c m k r : Nat} (h : ol_wm ad g I0 I f q c) (hd : ad (g + 8) ≠ ad (g + 9)) (hm : f m = none) (hr : r < c) (hk : f (q r) = some k) (hq : ∀ i, i < c → f (q i) ≠ none) : ol_wm ad g I0 (ol_u2 (ol_u2 I (ad (g + 8)) m (nI (k + 1))) (ad (g + 9)) c (nI m)) (va_up f m (some (k + 1))) (va_up q c m) (c + 1) := by
  refine ⟨fun x hx => ?_, fun i hi => ?_, fun i k2 hi h2 => ?_, fun a h8 h9 => ?_⟩
  · rw [ol_u2_a _ _ hd]
    by_cases e : x = m
    · subst e
      rw [ol_u2_s, va_up_self]
      rfl
    · rw [ol_u2_k _ _ e, va_up_ne _ _ e]
      exact h.1 x hx
  · by_cases e : i = c
    · subst e
      rw [ol_u2_s, va_up_self]
    · rw [ol_u2_k _ _ e, va_up_ne _ _ e, ol_u2_a _ _ (Ne.symm hd)]
      exact h.2.1 i (by omega)
  · by_cases e : i = c
    · subst e
      rw [va_up_self, va_up_self] at h2
      have := Option.some.inj h2
      have := h.2.2.1 r k hr hk
      omega
    · rw [va_up_ne q _ e, va_up_ne _ _ (fun z => hq i (by omega) (by rw [z]; exact hm))] at h2
      exact h.2.2.1 i k2 (by omega) h2
  · rw [ol_u2_a _ _ h9, ol_u2_a _ _ h8]
    exact h.2.2.2 a h8 h9

set_option maxRecDepth 100000 in
set_option maxHeartbeats 4000000 in
theorem lp_si {p : Program} {l : Launch} {e : Env} {R : Room} {s : State} {m : MethodId} {args : Array Value} {below : List Frame} {meth : Method} {c : Code} {D : va_G} {cA : Nat → ClassId} {A : Nat → Prop} {Q : State → Prop} {ro : Nat → Nat} {F : Nat → Nat → Option Nat} {cells slots : Nat} (C : ol_Cx p s m args c cX4_shortestWay 8 yX4_shortestWay.cls D cA A) {ad ta : Nat → Nat} (hL : ol_L ro F ad) {g : Nat} (hg : g ∈ [50, 60]) {n : Nat} {b : ol_B} (hW : ol_GW n b) {I0 : Nat → Nat → Int32} (hG : ol_XG (ol_vx I0 ad g) (F (ad (g + 1))) ta b (b.2.1 0 0) (b.2.1 0 0 + 1)) {fr : Nat} (hfr : fr < b.2.1 0 0) {r nn : Nat} {to : Int32} (hnn : nn < b.2.1 0 0) (ex : ∀ (I : Nat → Nat → Int32) (f : Nat → Option Nat) (q : Nat → Nat) (cq : Nat), q r = nn → ol_wm ad g I0 I f q cq → ol_QM (b.2.1 0 0) fr (b.2.1 3) (b.2.1 2) f q r cq (b.2.1 2 (nn + 1)) → ol_W p l e R s m args below meth c D cA A Q 8 ro I F cells slots 127 [some (.ref (ad g)), none, some (.int to), some (.int (nI cq)), some (.int (nI r)), none, none, none] []) : ∀ (d a : Nat) (I : Nat → Nat → Int32) (f : Nat → Option Nat) (q : Nat → Nat) (cq : Nat) (x7 : Option Value), a + d = b.2.1 2 (nn + 1) → b.2.1 2 nn ≤ a → q r = nn → ol_wm ad g I0 I f q cq → ol_QM (b.2.1 0 0) fr (b.2.1 3) (b.2.1 2) f q r cq a → ol_W p l e R s m args below meth c D cA A Q 8 ro I F cells slots 59 [some (.ref (ad g)), none, some (.int to), some (.int (nI cq)), some (.int (nI r)), some (.int (nI nn)), some (.int (nI a)), x7] [] := by
  have hxg : ol_is ro (ad g) (.inl 8) := by rcases ol_5060 hg with rfl | rfl <;> exact hL.is _ (by decide) (by decide) rfl
  have f4 : F (ad g) 3 = some (ad (g + 4)) := by rw [show g + 4 = g + 1 + 3 by omega]; exact hL.gf g 3 hg (by decide)
  have i4 : ol_is ro (ad (g + 4)) (.inr (0, 41)) := by rcases ol_5060 hg with rfl | rfl <;> exact hL.is _ (by decide) (by decide) rfl
  have f5 : F (ad g) 4 = some (ad (g + 5)) := by rw [show g + 5 = g + 1 + 4 by omega]; exact hL.gf g 4 hg (by decide)
  have i5 : ol_is ro (ad (g + 5)) (.inr (0, 240)) := by rcases ol_5060 hg with rfl | rfl <;> exact hL.is _ (by decide) (by decide) rfl
  have f8 : F (ad g) 7 = some (ad (g + 8)) := by rw [show g + 8 = g + 1 + 7 by omega]; exact hL.gf g 7 hg (by decide)
  have i8 : ol_is ro (ad (g + 8)) (.inr (0, 40)) := by rcases ol_5060 hg with rfl | rfl <;> exact hL.is _ (by decide) (by decide) rfl
  have f9 : F (ad g) 8 = some (ad (g + 9)) := by rw [show g + 9 = g + 1 + 8 by omega]; exact hL.gf g 8 hg (by decide)
  have i9 : ol_is ro (ad (g + 9)) (.inr (0, 40)) := by rcases ol_5060 hg with rfl | rfl <;> exact hL.is _ (by decide) (by decide) rfl
  have w1 := hW.1
  have w4 := hW.2.2.2.1
  have d_4_8 : ad (g + 4) ≠ ad (g + 8) := by rcases ol_5060 hg with rfl | rfl <;> exact hL.ne (by decide) (by decide) (by decide)
  have d_4_9 : ad (g + 4) ≠ ad (g + 9) := by rcases ol_5060 hg with rfl | rfl <;> exact hL.ne (by decide) (by decide) (by decide)
  have d_5_8 : ad (g + 5) ≠ ad (g + 8) := by rcases ol_5060 hg with rfl | rfl <;> exact hL.ne (by decide) (by decide) (by decide)
  have d_5_9 : ad (g + 5) ≠ ad (g + 9) := by rcases ol_5060 hg with rfl | rfl <;> exact hL.ne (by decide) (by decide) (by decide)
  have d_8_9 : ad (g + 8) ≠ ad (g + 9) := by rcases ol_5060 hg with rfl | rfl <;> exact hL.ne (by decide) (by decide) (by decide)
  intro d
  induction d with
  | zero =>
    intro a I f q cq x7 hk ha hq hS hQ
    have hk6 : a = b.2.1 2 (nn + 1) := by omega
    subst hk6
    refine ol_iload C dX4_shortestWay_59 rfl ?_
    refine ol_aload_n C dX4_shortestWay_61 rfl rfl (by first | exact ol_isq_r _ | exact ol_isq_q _ | exact ol_isq_n) ?_
    refine ol_gR (k := 3) C (by assumption) rfl rfl wd_42 (.inl rfl) dX4_shortestWay_62 ?_
    refine ol_rf (by assumption) ?_
    refine ol_iload C dX4_shortestWay_65 rfl ?_
    refine ol_iconst (v := 1) C dX4_shortestWay_67 (by decide) ?_
    refine ol_iadd C dX4_shortestWay_68 ?_
    refine ol_ti (nI_1 nn) ?_
    refine ol_lI (nn + 1) C (by assumption) rfl (by omega) (by decide) dX4_shortestWay_69 ?_
    refine ol_ti (y := nI (b.2.1 2 (nn + 1))) (by rw [hS.2.2.2 _ d_4_8 d_4_9]; exact hG.2.2.2.2.2.2.1 (nn + 1) (by omega)) ?_
    refine ol_icmp_ge (tgt := 127) C dX4_shortestWay_70 (by decide) (fun c_70 => ?_) (fun c_70 => absurd (Int32.le_refl (nI (b.2.1 2 (nn + 1)))) c_70)
    refine ol_lv (lv' := [some (.ref (ad g)), none, some (.int to), some (.int (nI cq)), some (.int (nI r)), none, none, none]) (by intro i v h; rcases i with _|_|_|_|_|_|_|_|i <;> first | exact h | (simp at h)) (ex I f q cq hq hS hQ)
  | succ d ih =>
    intro a I f q cq x7 hk ha hq hS hQ
    have hlt : a < b.2.1 2 (nn + 1) := by omega
    have hfl := hW.fl (j := nn + 1) (by omega)
    have hE := hW.2.2.2.2.1 a (by omega)
    have hcN : cq ≤ b.2.1 0 0 := by rw [hQ.1.2.1]; exact ol_cn_le _ _
    have hbd : ∀ x u, f x = some u → u < 2 ^ 31 := fun x u hu => by
      obtain ⟨-, i, hi, e⟩ := hQ.1.2.2.2.2.1 x u hu
      subst e
      have := hS.2.2.1 i u hi hu
      omega
    refine ol_iload C dX4_shortestWay_59 rfl ?_
    refine ol_aload_n C dX4_shortestWay_61 rfl rfl (by first | exact ol_isq_r _ | exact ol_isq_q _ | exact ol_isq_n) ?_
    refine ol_gR (k := 3) C (by assumption) rfl rfl wd_42 (.inl rfl) dX4_shortestWay_62 ?_
    refine ol_rf (by assumption) ?_
    refine ol_iload C dX4_shortestWay_65 rfl ?_
    refine ol_iconst (v := 1) C dX4_shortestWay_67 (by decide) ?_
    refine ol_iadd C dX4_shortestWay_68 ?_
    refine ol_ti (nI_1 nn) ?_
    refine ol_lI (nn + 1) C (by assumption) rfl (by omega) (by decide) dX4_shortestWay_69 ?_
    refine ol_ti (y := nI (b.2.1 2 (nn + 1))) (by rw [hS.2.2.2 _ d_4_8 d_4_9]; exact hG.2.2.2.2.2.2.1 (nn + 1) (by omega)) ?_
    refine ol_icmp_ge (tgt := 127) C dX4_shortestWay_70 (by decide) (fun c_70 => absurd c_70 (nI_ge hlt (by omega))) (fun c_70 => ?_)
    refine ol_aload_n C dX4_shortestWay_73 rfl rfl (by first | exact ol_isq_r _ | exact ol_isq_q _ | exact ol_isq_n) ?_
    refine ol_gR (k := 4) C (by assumption) rfl rfl wd_44 (.inl rfl) dX4_shortestWay_74 ?_
    refine ol_rf (by assumption) ?_
    refine ol_iload C dX4_shortestWay_77 rfl ?_
    refine ol_lI a C (by assumption) rfl (by omega) (by decide) dX4_shortestWay_79 ?_
    refine ol_ti (y := nI (b.2.1 3 a)) (by rw [hS.2.2.2 _ d_5_8 d_5_9]; exact (hG.2.2.2.2.2.2.2 a (by omega)).1) ?_
    refine ol_istore C dX4_shortestWay_80 (by decide) ?_
    refine ol_aload_n C dX4_shortestWay_82 rfl rfl (by first | exact ol_isq_r _ | exact ol_isq_q _ | exact ol_isq_n) ?_
    refine ol_gR (k := 7) C (by assumption) rfl rfl wd_50 (.inl rfl) dX4_shortestWay_83 ?_
    refine ol_rf (by assumption) ?_
    refine ol_iload C dX4_shortestWay_86 rfl ?_
    refine ol_lI (b.2.1 3 a) C (by assumption) rfl (by omega) (by decide) dX4_shortestWay_88 ?_
    refine ol_ti (hS.1 _ (by omega)) ?_
    refine ol_ldc (v := (-1000009)) C wd_32 dX4_shortestWay_89 ?_
    refine ol_icmp_ne (tgt := 121) C dX4_shortestWay_91 (by decide) (fun c_91 => ?_) (fun c_91 => ?_)
    · obtain ⟨kb, hkb, -⟩ := ol_e_s c_91
      have hQ2 := hQ.old hkb
      refine ol_iincN C dX4_shortestWay_121 rfl (by decide) ?_
      refine ol_goto (tgt := 59) C dX4_shortestWay_124 (by decide) ?_
      exact ih (a + 1) _ _ _ _ _ (by omega) (by omega) hq hS hQ2
    · have hno : f (b.2.1 3 a) = none := ol_e_n (hbd _) c_91
      obtain ⟨kr, hkr⟩ := Option.ne_none_iff_exists'.mp (hQ.1.2.2.2.1 r hQ.2.1).2
      obtain ⟨hcl, hQ2⟩ := hQ.new hno hE hkr (by rw [hq]; exact ha) (by rw [hq]; exact hlt)
      have hS2 := hS.new d_8_9 hno hQ.2.1 hkr (fun i hi => (hQ.1.2.2.2.1 i hi).2)
      have hkr2 : f nn = some kr := by rw [← hq]; exact hkr
      refine ol_aload_n C dX4_shortestWay_94 rfl rfl (by first | exact ol_isq_r _ | exact ol_isq_q _ | exact ol_isq_n) ?_
      refine ol_gR (k := 7) C (by assumption) rfl rfl wd_50 (.inl rfl) dX4_shortestWay_95 ?_
      refine ol_rf (by assumption) ?_
      refine ol_iload C dX4_shortestWay_98 rfl ?_
      refine ol_aload_n C dX4_shortestWay_100 rfl rfl (by first | exact ol_isq_r _ | exact ol_isq_q _ | exact ol_isq_n) ?_
      refine ol_gR (k := 7) C (by assumption) rfl rfl wd_50 (.inl rfl) dX4_shortestWay_101 ?_
      refine ol_rf (by assumption) ?_
      refine ol_iload C dX4_shortestWay_104 rfl ?_
      refine ol_lI nn C (by assumption) rfl (by omega) (by decide) dX4_shortestWay_106 ?_
      refine ol_ti (y := nI kr) (by rw [hS.1 nn (by omega), hkr2]; rfl) ?_
      refine ol_iconst (v := 1) C dX4_shortestWay_107 (by decide) ?_
      refine ol_iadd C dX4_shortestWay_108 ?_
      refine ol_ti (nI_1 kr) ?_
      refine ol_sI (b.2.1 3 a) C (by assumption) rfl (by omega) (by decide) dX4_shortestWay_109 ?_
      refine ol_aload_n C dX4_shortestWay_110 rfl rfl (by first | exact ol_isq_r _ | exact ol_isq_q _ | exact ol_isq_n) ?_
      refine ol_gR (k := 8) C (by assumption) rfl rfl wd_51 (.inl rfl) dX4_shortestWay_111 ?_
      refine ol_rf (by assumption) ?_
      refine ol_iload_n C dX4_shortestWay_114 rfl rfl ?_
      refine ol_iload C dX4_shortestWay_115 rfl ?_
      refine ol_sI cq C (by assumption) rfl (by omega) (by decide) dX4_shortestWay_117 ?_
      refine ol_iincN C dX4_shortestWay_118 rfl (by decide) ?_
      refine ol_iincN C dX4_shortestWay_121 rfl (by decide) ?_
      refine ol_goto (tgt := 59) C dX4_shortestWay_124 (by decide) ?_
      exact ih (a + 1) _ _ _ _ _ (by omega) (by omega) (by rw [va_up_ne _ _ (by have := hQ.2.1; omega)]; exact hq) hS2 hQ2

set_option maxRecDepth 100000 in
set_option maxHeartbeats 4000000 in
theorem lp_so {p : Program} {l : Launch} {e : Env} {R : Room} {s : State} {m : MethodId} {args : Array Value} {below : List Frame} {meth : Method} {c : Code} {D : va_G} {cA : Nat → ClassId} {A : Nat → Prop} {Q : State → Prop} {ro : Nat → Nat} {F : Nat → Nat → Option Nat} {cells slots : Nat} (C : ol_Cx p s m args c cX4_shortestWay 8 yX4_shortestWay.cls D cA A) {ad ta : Nat → Nat} (hL : ol_L ro F ad) {g : Nat} (hg : g ∈ [50, 60]) {n : Nat} {b : ol_B} (hW : ol_GW n b) {I0 : Nat → Nat → Int32} (hG : ol_XG (ol_vx I0 ad g) (F (ad (g + 1))) ta b (b.2.1 0 0) (b.2.1 0 0 + 1)) {fr : Nat} (hfr : fr < b.2.1 0 0) {to : Int32} (ex : ∀ (I : Nat → Nat → Int32) (f : Nat → Option Nat) (q : Nat → Nat) (cq : Nat), ol_wm ad g I0 I f q cq → ol_QO (b.2.1 0 0) fr (b.2.1 3) (b.2.1 2) f q cq cq → ol_W p l e R s m args below meth c D cA A Q 8 ro I F cells slots 133 [some (.ref (ad g)), none, some (.int to), none, none, none, none, none] []) : ∀ (d r : Nat) (I : Nat → Nat → Int32) (f : Nat → Option Nat) (q : Nat → Nat) (cq : Nat), r + d = 41 → ol_wm ad g I0 I f q cq → ol_QO (b.2.1 0 0) fr (b.2.1 3) (b.2.1 2) f q r cq → ol_W p l e R s m args below meth c D cA A Q 8 ro I F cells slots 28 [some (.ref (ad g)), none, some (.int to), some (.int (nI cq)), some (.int (nI r)), none, none, none] [] := by
  have hxg : ol_is ro (ad g) (.inl 8) := by rcases ol_5060 hg with rfl | rfl <;> exact hL.is _ (by decide) (by decide) rfl
  have f4 : F (ad g) 3 = some (ad (g + 4)) := by rw [show g + 4 = g + 1 + 3 by omega]; exact hL.gf g 3 hg (by decide)
  have i4 : ol_is ro (ad (g + 4)) (.inr (0, 41)) := by rcases ol_5060 hg with rfl | rfl <;> exact hL.is _ (by decide) (by decide) rfl
  have f5 : F (ad g) 4 = some (ad (g + 5)) := by rw [show g + 5 = g + 1 + 4 by omega]; exact hL.gf g 4 hg (by decide)
  have i5 : ol_is ro (ad (g + 5)) (.inr (0, 240)) := by rcases ol_5060 hg with rfl | rfl <;> exact hL.is _ (by decide) (by decide) rfl
  have f8 : F (ad g) 7 = some (ad (g + 8)) := by rw [show g + 8 = g + 1 + 7 by omega]; exact hL.gf g 7 hg (by decide)
  have i8 : ol_is ro (ad (g + 8)) (.inr (0, 40)) := by rcases ol_5060 hg with rfl | rfl <;> exact hL.is _ (by decide) (by decide) rfl
  have f9 : F (ad g) 8 = some (ad (g + 9)) := by rw [show g + 9 = g + 1 + 8 by omega]; exact hL.gf g 8 hg (by decide)
  have i9 : ol_is ro (ad (g + 9)) (.inr (0, 40)) := by rcases ol_5060 hg with rfl | rfl <;> exact hL.is _ (by decide) (by decide) rfl
  have w1 := hW.1
  have w4 := hW.2.2.2.1
  have d_4_8 : ad (g + 4) ≠ ad (g + 8) := by rcases ol_5060 hg with rfl | rfl <;> exact hL.ne (by decide) (by decide) (by decide)
  have d_4_9 : ad (g + 4) ≠ ad (g + 9) := by rcases ol_5060 hg with rfl | rfl <;> exact hL.ne (by decide) (by decide) (by decide)
  have d_5_8 : ad (g + 5) ≠ ad (g + 8) := by rcases ol_5060 hg with rfl | rfl <;> exact hL.ne (by decide) (by decide) (by decide)
  have d_5_9 : ad (g + 5) ≠ ad (g + 9) := by rcases ol_5060 hg with rfl | rfl <;> exact hL.ne (by decide) (by decide) (by decide)
  have d_8_9 : ad (g + 8) ≠ ad (g + 9) := by rcases ol_5060 hg with rfl | rfl <;> exact hL.ne (by decide) (by decide) (by decide)
  intro d
  induction d with
  | zero =>
    intro r I f q cq hk hS hQ
    have hcN : cq ≤ b.2.1 0 0 := by rw [hQ.2.1]; exact ol_cn_le _ _
    have hrc := hQ.1
    exact absurd hk (by omega)
  | succ d ih =>
    intro r I f q cq hk hS hQ
    have hcN : cq ≤ b.2.1 0 0 := by rw [hQ.2.1]; exact ol_cn_le _ _
    have hrc := hQ.1
    refine ol_iload C dX4_shortestWay_28 rfl ?_
    refine ol_bipush (v := 40) C dX4_shortestWay_30 (by decide) ?_
    refine ol_icmp_ge (tgt := 133) C dX4_shortestWay_32 (by decide) (fun c_32 => ?_) (fun c_32 => ?_)
    · have hge : 40 ≤ r := (nI_leI (a := 40) (by omega) (by omega)).mp c_32
      obtain rfl : r = cq := by omega
      refine ol_lv (lv' := [some (.ref (ad g)), none, some (.int to), none, none, none, none, none]) (by intro i v h; rcases i with _|_|_|_|_|_|_|_|i <;> first | exact h | (simp at h)) ?_
      exact ex I f q r hS hQ
    · have hr40 : r < 40 := Nat.lt_of_not_le (fun z => c_32 ((nI_leI (a := 40) (by omega) (by omega)).mpr z))
      refine ol_iload C dX4_shortestWay_35 rfl ?_
      refine ol_iload_n C dX4_shortestWay_37 rfl rfl ?_
      refine ol_icmp_ge (tgt := 133) C dX4_shortestWay_38 (by decide) (fun c_38 => ?_) (fun c_38 => ?_)
      · have hge : cq ≤ r := (nI_leI (by omega) (by omega)).mp c_38
        obtain rfl : r = cq := by omega
        refine ol_lv (lv' := [some (.ref (ad g)), none, some (.int to), none, none, none, none, none]) (by intro i v h; rcases i with _|_|_|_|_|_|_|_|i <;> first | exact h | (simp at h)) ?_
        exact ex I f q r hS hQ
      · have hlt : r < cq := Nat.lt_of_not_le (fun z => c_38 ((nI_leI (by omega) (by omega)).mpr z))
        have hqr := (hQ.2.2.2.1 r hlt).1
        refine ol_aload_n C dX4_shortestWay_41 rfl rfl (by first | exact ol_isq_r _ | exact ol_isq_q _ | exact ol_isq_n) ?_
        refine ol_gR (k := 8) C (by assumption) rfl rfl wd_51 (.inl rfl) dX4_shortestWay_42 ?_
        refine ol_rf (by assumption) ?_
        refine ol_iload C dX4_shortestWay_45 rfl ?_
        refine ol_lI r C (by assumption) rfl hr40 (by decide) dX4_shortestWay_47 ?_
        refine ol_ti (hS.2.1 r hlt) ?_
        refine ol_istore C dX4_shortestWay_48 (by decide) ?_
        refine ol_aload_n C dX4_shortestWay_50 rfl rfl (by first | exact ol_isq_r _ | exact ol_isq_q _ | exact ol_isq_n) ?_
        refine ol_gR (k := 3) C (by assumption) rfl rfl wd_42 (.inl rfl) dX4_shortestWay_51 ?_
        refine ol_rf (by assumption) ?_
        refine ol_iload C dX4_shortestWay_54 rfl ?_
        refine ol_lI (q r) C (by assumption) rfl (by omega) (by decide) dX4_shortestWay_56 ?_
        refine ol_ti (y := nI (b.2.1 2 (q r))) (by rw [hS.2.2.2 _ d_4_8 d_4_9]; exact hG.2.2.2.2.2.2.1 (q r) (by omega)) ?_
        refine ol_istore C dX4_shortestWay_57 (by decide) ?_
        have hmo := hW.2.2.2.2.2.2.1 (q r) hqr
        refine lp_si C hL hg hW hG hfr (r := r) (nn := q r) hqr (fun I5 f5 q5 c5 h5 hS5 hQ5 => ?_) (b.2.1 2 (q r + 1) - b.2.1 2 (q r)) (b.2.1 2 (q r)) I f q cq _ (by omega) (Nat.le_refl _) rfl hS (hQ.begin hlt)
        refine ol_iincN C dX4_shortestWay_127 rfl (by decide) ?_
        refine ol_goto (tgt := 28) C dX4_shortestWay_130 (by decide) ?_
        exact ih (r + 1) I5 f5 q5 c5 (by omega) hS5 (ol_QM.done (by rw [h5]; exact hQ5))

set_option maxRecDepth 100000 in
set_option maxHeartbeats 4000000 in
theorem g_way (l : Launch) (D : va_G) (cA : Nat → ClassId) {ro : Nat → Nat} {I : Nat → Nat → Int32} {F : Nat → Nat → Option Nat} {ad ta : Nat → Nat} (hL : ol_L ro F ad) {g : Nat} (hg : g ∈ [50, 60]) {n : Nat} {b : ol_B} (hW : ol_GW n b) (hG : ol_XG (ol_vx I ad g) (F (ad (g + 1))) ta b (b.2.1 0 0) (b.2.1 0 0 + 1)) {fr to : Nat} (hfr : fr < b.2.1 0 0) (hto : to < b.2.1 0 0) : ol_M l D cA yX4_shortestWay cX4_shortestWay 8 (some FieldType.int) (ol_r 1 0 0) [.ref (ad g), .int (nI fr), .int (nI to)] ro I F (fun v ro' I' F' => ro' = ro ∧ F' = F ∧ (∀ a, a ≠ ad (g + 8) → a ≠ ad (g + 9) → I' a = I a) ∧ ∃ f, sp_DF (b.2.1 3) (b.2.1 2) fr f ∧ v = some (.int (ol_e (f to)))) := by
  refine ol_M.of (by decide +kernel) (Nat.le_of_ble_eq_true rfl) (by simp [Value.category, ol_rfc]) ?_
  intro p e s m args below meth c C hret hlk hin
  have hxg : ol_is ro (ad g) (.inl 8) := by rcases ol_5060 hg with rfl | rfl <;> exact hL.is _ (by decide) (by decide) rfl
  have f4 : F (ad g) 3 = some (ad (g + 4)) := by rw [show g + 4 = g + 1 + 3 by omega]; exact hL.gf g 3 hg (by decide)
  have i4 : ol_is ro (ad (g + 4)) (.inr (0, 41)) := by rcases ol_5060 hg with rfl | rfl <;> exact hL.is _ (by decide) (by decide) rfl
  have f5 : F (ad g) 4 = some (ad (g + 5)) := by rw [show g + 5 = g + 1 + 4 by omega]; exact hL.gf g 4 hg (by decide)
  have i5 : ol_is ro (ad (g + 5)) (.inr (0, 240)) := by rcases ol_5060 hg with rfl | rfl <;> exact hL.is _ (by decide) (by decide) rfl
  have f8 : F (ad g) 7 = some (ad (g + 8)) := by rw [show g + 8 = g + 1 + 7 by omega]; exact hL.gf g 7 hg (by decide)
  have i8 : ol_is ro (ad (g + 8)) (.inr (0, 40)) := by rcases ol_5060 hg with rfl | rfl <;> exact hL.is _ (by decide) (by decide) rfl
  have f9 : F (ad g) 8 = some (ad (g + 9)) := by rw [show g + 9 = g + 1 + 8 by omega]; exact hL.gf g 8 hg (by decide)
  have i9 : ol_is ro (ad (g + 9)) (.inr (0, 40)) := by rcases ol_5060 hg with rfl | rfl <;> exact hL.is _ (by decide) (by decide) rfl
  have w1 := hW.1
  have w4 := hW.2.2.2.1
  have d_4_8 : ad (g + 4) ≠ ad (g + 8) := by rcases ol_5060 hg with rfl | rfl <;> exact hL.ne (by decide) (by decide) (by decide)
  have d_4_9 : ad (g + 4) ≠ ad (g + 9) := by rcases ol_5060 hg with rfl | rfl <;> exact hL.ne (by decide) (by decide) (by decide)
  have d_5_8 : ad (g + 5) ≠ ad (g + 8) := by rcases ol_5060 hg with rfl | rfl <;> exact hL.ne (by decide) (by decide) (by decide)
  have d_5_9 : ad (g + 5) ≠ ad (g + 9) := by rcases ol_5060 hg with rfl | rfl <;> exact hL.ne (by decide) (by decide) (by decide)
  have d_8_9 : ad (g + 8) ≠ ad (g + 9) := by rcases ol_5060 hg with rfl | rfl <;> exact hL.ne (by decide) (by decide) (by decide)
  refine ol_aload_n C dX4_shortestWay_0 rfl rfl (by first | exact ol_isq_r _ | exact ol_isq_q _ | exact ol_isq_n) ?_
  refine ol_gR (k := 7) C (by assumption) rfl rfl wd_50 (.inl rfl) dX4_shortestWay_1 ?_
  refine ol_rf (by assumption) ?_
  refine ol_ldc (v := (-1000009)) C wd_32 dX4_shortestWay_4 ?_
  refine ol_callS C (j_fill l D cA i8 (by decide) (-1000009)) wd_35 wd_3 wd_33 wd_34 mh_J7_fill_53178 (by decide) rfl (by first | exact Nat.le_of_ble_eq_true rfl | simp [ol_rfc, Value.category]) dX4_shortestWay_6 (ol_xv ?_)
  refine ol_aload_n C dX4_shortestWay_9 rfl rfl (by first | exact ol_isq_r _ | exact ol_isq_q _ | exact ol_isq_n) ?_
  refine ol_gR (k := 7) C (by assumption) rfl rfl wd_50 (.inl rfl) dX4_shortestWay_10 ?_
  refine ol_rf (by assumption) ?_
  refine ol_iload_n C dX4_shortestWay_13 rfl rfl ?_
  refine ol_iconst (v := 0) C dX4_shortestWay_14 (by decide) ?_
  refine ol_sI fr C (by assumption) rfl (by omega) (by decide) dX4_shortestWay_15 ?_
  refine ol_aload_n C dX4_shortestWay_16 rfl rfl (by first | exact ol_isq_r _ | exact ol_isq_q _ | exact ol_isq_n) ?_
  refine ol_gR (k := 8) C (by assumption) rfl rfl wd_51 (.inl rfl) dX4_shortestWay_17 ?_
  refine ol_rf (by assumption) ?_
  refine ol_iconst (v := 0) C dX4_shortestWay_20 (by decide) ?_
  refine ol_iload_n C dX4_shortestWay_21 rfl rfl ?_
  refine ol_sI 0 C (by assumption) rfl (by decide) (by decide) dX4_shortestWay_22 ?_
  refine ol_iconst (v := 1) C dX4_shortestWay_23 (by decide) ?_
  refine ol_istore_n C dX4_shortestWay_24 rfl (by decide) ?_
  refine ol_iconst (v := 0) C dX4_shortestWay_25 (by decide) ?_
  refine ol_istore C dX4_shortestWay_26 (by decide) ?_
  refine ol_lv (lv' := [some (.ref (ad g)), none, some (.int (nI to)), some (.int (nI 1)), some (.int (nI 0)), none, none, none]) (by intro i v h; rcases i with _|_|_|_|_|_|_|_|i <;> first | exact h | (simp at h)) ?_
  have hS0 : ol_wm ad g I (ol_u2 (ol_u2 (va_up I (ad (g + 8)) (ol_fi (I (ad (g + 8))) 40 (-1000009))) (ad (g + 8)) fr 0) (ad (g + 9)) 0 (nI fr)) (va_up (fun _ => none) fr (some 0)) (fun _ => fr) 1 := by
    refine ⟨fun x hx => ?_, fun i hi => ?_, fun i k hi hk => ?_, fun a h8 h9 => ?_⟩
    · rw [ol_u2_a _ _ d_8_9]
      by_cases e : x = fr
      · subst e
        rw [ol_u2_s, va_up_self]
        rfl
      · rw [ol_u2_k _ _ e, va_up_ne _ _ e, va_up_self, ol_fi_lt hx]
        rfl
    · have : i = 0 := by omega
      subst this
      rw [ol_u2_s]
    · rw [va_up_self] at hk
      have := Option.some.inj hk
      omega
    · rw [ol_u2_a _ _ h9, ol_u2_a _ _ h8, va_up_ne _ _ h8]
  refine lp_so C hL hg hW hG hfr (fun I5 f5 q5 c5 hS5 hQ5 => ?_) 41 0 _ _ (fun _ => fr) 1 rfl hS0 (ol_QO_init hfr rfl)
  refine ol_aload_n C dX4_shortestWay_133 rfl rfl (by first | exact ol_isq_r _ | exact ol_isq_q _ | exact ol_isq_n) ?_
  refine ol_gR (k := 7) C (by assumption) rfl rfl wd_50 (.inl rfl) dX4_shortestWay_134 ?_
  refine ol_rf (by assumption) ?_
  refine ol_iload_n C dX4_shortestWay_137 rfl rfl ?_
  refine ol_lI to C (by assumption) rfl (by omega) (by decide) dX4_shortestWay_138 ?_
  refine ol_ti (hS5.1 to (by omega)) ?_
  exact ol_iret C hret hlk rfl (by decide) (by decide) dX4_shortestWay_139 ⟨rfl, rfl, hS5.2.2.2, f5, hQ5.fin, rfl⟩

/-- what way() answers -/
def sp_wy (b : ol_B) (t u v : Int32) : Prop := (¬ (ol_k (b.2.1 0 0) t ∧ ol_k (b.2.1 0 0) u) ∧ v = -1000001) ∨ ∃ (fr to : Nat) (f : Nat → Option Nat), t = nI fr ∧ u = nI to ∧ fr < b.2.1 0 0 ∧ to < b.2.1 0 0 ∧ sp_DF (b.2.1 3) (b.2.1 2) fr f ∧ v = ol_e (f to)
theorem sp_wy_uq {n : Nat} {b : ol_B} (hW : ol_GW n b) {t u v v' : Int32} (h : sp_wy b t u v) (h' : sp_wy b t u v') : v = v' := by
  have w1 := hW.1
  have K : ∀ {x y : Nat}, x < b.2.1 0 0 → y < b.2.1 0 0 → ol_k (b.2.1 0 0) (nI x) ∧ ol_k (b.2.1 0 0) (nI y) := fun hx hy => ⟨ol_k_nI (by omega) hx, ol_k_nI (by omega) hy⟩
  rcases h with ⟨h1, rfl⟩ | ⟨fr, to, f, rfl, rfl, h3, h4, h5, rfl⟩
  · rcases h' with ⟨-, rfl⟩ | ⟨fr, to, f, rfl, rfl, h3, h4, -, -⟩
    · rfl
    · exact absurd (K h3 h4) h1
  · rcases h' with ⟨h1, -⟩ | ⟨fr2, to2, f2, e1, e2, h3', h4', h5', rfl⟩
    · exact absurd (K h3 h4) h1
    · obtain rfl := (nI_eq (by omega) (by omega)).mp e1
      obtain rfl := (nI_eq (by omega) (by omega)).mp e2
      rw [h5.uq h5' to]

set_option maxRecDepth 100000 in
set_option maxHeartbeats 4000000 in
theorem x_way (l : Launch) (D : va_G) (cA : Nat → ClassId) {ro : Nat → Nat} {I : Nat → Nat → Int32} {F : Nat → Nat → Option Nat} {ad ta pa : Nat → Nat} {n : Nat} {So : Nat → Nat} {T : Nat → Nat → Int32} {P : Nat → Nat → Option Nat} (hV : ol_V n So T P) (hL : ol_L ro F ad) (hT : ol_XT ro I F ad ta pa n So T P) {g : Nat} (hg : g ∈ [50, 60]) (hl : F (ad 1) 2 = some (ad g)) {b : ol_B} (hW : ol_GW n b) (hG : ol_XG (ol_vx I ad g) (F (ad (g + 1))) ta b (b.2.1 0 0) (b.2.1 0 0 + 1)) (t u : Int32) : ol_M l D cA yX10_way cX10_way 3 (some FieldType.int) (ol_r 2 0 0) [.ref (ad 1), .int t, .int u] ro I F (fun v ro' I' F' => ro' = ro ∧ F' = F ∧ (∀ a, a ≠ ad (g + 8) → a ≠ ad (g + 9) → I' a = I a) ∧ ∃ w, v = some (.int w) ∧ sp_wy b t u w) := by
  refine ol_M.of (by decide +kernel) (Nat.le_of_ble_eq_true rfl) (by simp [Value.category, ol_rfc]) ?_
  intro p e s m args below meth c C hret hlk hin
  have h40 := hV.1
  have hx1 : ol_is ro (ad 1) (.inl 0) := hL.is 1 (by decide) (by decide) rfl
  have hx11 : ol_is ro (ad 11) (.inr (2, 40)) := hL.is 11 (by decide) (by decide) rfl
  have hxg : ol_is ro (ad g) (.inl 8) := by rcases ol_5060 hg with rfl | rfl <;> exact hL.is _ (by decide) (by decide) rfl
  refine ol_aload_n C dX10_way_0 rfl rfl (by first | exact ol_isq_r _ | exact ol_isq_q _ | exact ol_isq_n) ?_
  refine ol_gR (k := 2) C (by assumption) rfl rfl wd_88 (.inl rfl) dX10_way_1 ?_
  refine ol_rf hl ?_
  refine ol_iload_n C dX10_way_4 rfl rfl ?_
  refine ol_callV C (m_hasNode l D cA hxg t) hxg.1 hxg.2 rfl wd_510 wd_2 wd_507 wd_508 wd_509 mh_X4_hasNode (by decide) rfl (by first | exact Nat.le_of_ble_eq_true rfl | simp [ol_rfc, Value.category]) dX10_way_5 (ol_xi ?_)
  rw [show I (ad g) 9 = nI (b.2.1 0 0) from hG.1, show ol_p (¬ t < 0 ∧ ¬ nI (b.2.1 0 0) ≤ t) = ol_p (ol_k (b.2.1 0 0) t) from rfl]
  refine ol_if_eq (tgt := 22) C dX10_way_8 (by decide) (fun c_8 => ?_) (fun c_8 => ?_)
  · have hno : ¬ (ol_k (b.2.1 0 0) t ∧ ol_k (b.2.1 0 0) u) := fun q => ol_p_0.mp c_8 q.1
    refine ol_ldc (v := (-1000001)) C wd_281 dX10_way_22 ?_
    exact ol_iret C hret hlk rfl (by decide) (by decide) dX10_way_24 ⟨rfl, rfl, fun _ _ _ => rfl, _, rfl, Or.inl ⟨hno, rfl⟩⟩
  · refine ol_aload_n C dX10_way_11 rfl rfl (by first | exact ol_isq_r _ | exact ol_isq_q _ | exact ol_isq_n) ?_
    refine ol_gR (k := 2) C (by assumption) rfl rfl wd_88 (.inl rfl) dX10_way_12 ?_
    refine ol_rf hl ?_
    refine ol_iload_n C dX10_way_15 rfl rfl ?_
    refine ol_callV C (m_hasNode l D cA hxg u) hxg.1 hxg.2 rfl wd_510 wd_2 wd_507 wd_508 wd_509 mh_X4_hasNode (by decide) rfl (by first | exact Nat.le_of_ble_eq_true rfl | simp [ol_rfc, Value.category]) dX10_way_16 (ol_xi ?_)
    rw [show I (ad g) 9 = nI (b.2.1 0 0) from hG.1, show ol_p (¬ u < 0 ∧ ¬ nI (b.2.1 0 0) ≤ u) = ol_p (ol_k (b.2.1 0 0) u) from rfl]
    refine ol_if_ne (tgt := 25) C dX10_way_19 (by decide) (fun c_19 => ?_) (fun c_19 => ?_)
    · obtain ⟨fr, hfr, rfl, -⟩ := ol_k_ix (ol_p_n.mp c_8) hW.1
      obtain ⟨to, hto, rfl, -⟩ := ol_k_ix (ol_p_n.mp c_19) hW.1
      refine ol_aload_n C dX10_way_25 rfl rfl (by first | exact ol_isq_r _ | exact ol_isq_q _ | exact ol_isq_n) ?_
      refine ol_gR (k := 2) C (by assumption) rfl rfl wd_88 (.inl rfl) dX10_way_26 ?_
      refine ol_rf hl ?_
      refine ol_iload_n C dX10_way_29 rfl rfl ?_
      refine ol_iload_n C dX10_way_30 rfl rfl ?_
      refine ol_callV C (g_way l D cA hL hg hW hG hfr hto) hxg.1 hxg.2 rfl wd_534 wd_2 wd_531 wd_532 wd_533 mh_X4_shortestWay (by decide) rfl (by first | exact Nat.le_of_ble_eq_true rfl | simp [ol_rfc, Value.category]) dX10_way_31 (fun v_31 ro_31 I_31 F_31 hh_31 => ?_)
      obtain ⟨rfl, rfl, hfm, f, hdf, rfl⟩ := hh_31
      refine ol_st (st' := .int _ :: _) rfl ?_
      exact ol_iret C hret hlk rfl (by decide) (by decide) dX10_way_34 ⟨rfl, rfl, hfm, _, rfl, Or.inr ⟨fr, to, f, rfl, rfl, hfr, hto, hdf, rfl⟩⟩
    · have hno : ¬ (ol_k (b.2.1 0 0) t ∧ ol_k (b.2.1 0 0) u) := fun q => ol_p_0.mp (Classical.not_not.mp (fun z => z c_19)) q.2
      refine ol_ldc (v := (-1000001)) C wd_281 dX10_way_22 ?_
      exact ol_iret C hret hlk rfl (by decide) (by decide) dX10_way_24 ⟨rfl, rfl, fun _ _ _ => rfl, _, rfl, Or.inl ⟨hno, rfl⟩⟩
