set_option maxRecDepth 100000 in
set_option maxHeartbeats 4000000 in
theorem lp_nof {p : Program} {l : Launch} {e : Env} {R : Room} {s : State} {m : MethodId} {args : Array Value} {below : List Frame} {meth : Method} {c : Code} {D : va_G} {cA : Nat → ClassId} {A : Nat → Prop} {Q : State → Prop} {ro : Nat → Nat} {F : Nat → Nat → Option Nat} {cells slots : Nat} (C : ol_Cx p s m args c cX11_load 6 yX11_load.cls D cA A) {ad : Nat → Nat} (hL : ol_L ro F ad) {g : Nat} (hg : g < 2) {I1 : Nat → Nat → Int32} {a1 bk : Int32} {x5 : Option Value} (ex : ∀ I : Nat → Nat → Int32, (∀ a, a ≠ ad 33 → I a = I1 a) → (∀ j, j < 40 → I (ad 33) (40 * g + j) = -1) → (∀ j, ¬ (40 * g ≤ j ∧ j < 40 * g + 40) → I (ad 33) j = I1 (ad 33) j) → ol_W p l e R s m args below meth c D cA A Q 6 ro I F cells slots 86 [some (.ref (ad 10)), some (.int a1), some (.int bk), some (.int (nI g)), some (.int (nI 40)), x5] []) : ∀ (d k : Nat) (I : Nat → Nat → Int32), k + d = 40 → (∀ a, a ≠ ad 33 → I a = I1 a) → (∀ j, j < k → I (ad 33) (40 * g + j) = -1) → (∀ j, ¬ (40 * g ≤ j ∧ j < 40 * g + 40) → I (ad 33) j = I1 (ad 33) j) → ol_W p l e R s m args below meth c D cA A Q 6 ro I F cells slots 60 [some (.ref (ad 10)), some (.int a1), some (.int bk), some (.int (nI g)), some (.int (nI k)), x5] [] := by
  have hm : ol_is ro (ad 10) (.inl 9) := hL.is 10 (by decide) (by decide) rfl
  have f_sorts : F (ad 10) 1 = some (ad 22) := hL.mf 1 22 (by decide)
  have i_sorts : ol_is ro (ad 22) (.inr (0, 40)) := hL.is 22 (by decide) (by decide) rfl
  have f_nodes : F (ad 10) 13 = some (ad 31) := hL.mf 13 31 (by decide)
  have i_nodes : ol_is ro (ad 31) (.inr (0, 2)) := hL.is 31 (by decide) (by decide) rfl
  have f_nodeOf : F (ad 10) 15 = some (ad 33) := hL.mf 15 33 (by decide)
  have i_nodeOf : ol_is ro (ad 33) (.inr (0, 80)) := hL.is 33 (by decide) (by decide) rfl
  have f_firstArc : F (ad 10) 17 = some (ad 35) := hL.mf 17 35 (by decide)
  have i_firstArc : ol_is ro (ad 35) (.inr (0, 82)) := hL.is 35 (by decide) (by decide) rfl
  have f_arcsIn : F (ad 10) 18 = some (ad 36) := hL.mf 18 36 (by decide)
  have i_arcsIn : ol_is ro (ad 36) (.inr (0, 2)) := hL.is 36 (by decide) (by decide) rfl
  have f_holeMany : F (ad 10) 22 = some (ad 40) := hL.mf 22 40 (by decide)
  have i_holeMany : ol_is ro (ad 40) (.inr (0, 2)) := hL.is 40 (by decide) (by decide) rfl
  intro d
  induction d with
  | zero =>
    intro k I hk h1 h2 h3
    have hk6 : k = 40 := by omega
    subst hk6
    refine ol_iload C dX11_load_60 rfl ?_
    refine ol_bipush (v := 40) C dX11_load_62 (by decide) ?_
    refine ol_icmp_ge (tgt := 86) C dX11_load_64 (by decide) (fun c_64 => ?_) (fun c_64 => absurd (show (40 : Int32) ≤ nI 40 by decide) c_64)
    exact ex I h1 h2 h3
  | succ d ih =>
    intro k I hk h1 h2 h3
    have hk6 : k < 40 := by omega
    refine ol_iload C dX11_load_60 rfl ?_
    refine ol_bipush (v := 40) C dX11_load_62 (by decide) ?_
    refine ol_icmp_ge (tgt := 86) C dX11_load_64 (by decide) (fun c_64 => absurd c_64 (nI_ge (b := 40) hk6 (by decide))) (fun c_64 => ?_)
    refine ol_aload_n C dX11_load_67 rfl rfl (by first | exact ol_isq_r _ | exact ol_isq_q _ | exact ol_isq_n) ?_
    refine ol_gR (k := 15) C (by assumption) rfl rfl wd_595 (.inl rfl) dX11_load_68 ?_
    refine ol_rf (by assumption) ?_
    refine ol_bipush (v := 40) C dX11_load_71 (by decide) ?_
    refine ol_iload_n C dX11_load_73 rfl rfl ?_
    refine ol_imul C dX11_load_74 ?_
    refine ol_iload C dX11_load_75 rfl ?_
    refine ol_iadd C dX11_load_77 ?_
    refine ol_iconst (v := (-1)) C dX11_load_78 (by decide) ?_
    refine ol_sI (40 * g + k) C (by assumption) (ol_ma rfl) (by omega) (by decide) dX11_load_79 ?_
    refine ol_iincN C dX11_load_80 rfl (by decide) ?_
    refine ol_goto (tgt := 60) C dX11_load_83 (by decide) ?_
    refine ih (k + 1) _ (by omega) (fun a ha => (ol_u2_a I _ ha).trans (h1 a ha)) (fun j hj => ?_) (fun j hj => ?_)
    · by_cases e : j = k
      · subst e
        exact ol_u2_s _ _ _ _
      · rw [ol_u2_k I _ (by omega)]
        exact h2 j (by omega)
    · rw [ol_u2_k I _ (by omega)]
      exact h3 j hj

set_option maxRecDepth 100000 in
set_option maxHeartbeats 4000000 in
theorem lp_load {p : Program} {l : Launch} {e : Env} {R : Room} {s : State} {m : MethodId} {args : Array Value} {below : List Frame} {meth : Method} {c : Code} {D : va_G} {cA : Nat → ClassId} {A : Nat → Prop} {Q : State → Prop} {ro : Nat → Nat} {F : Nat → Nat → Option Nat} {cells slots : Nat} (C : ol_Cx p s m args c cX11_load 6 yX11_load.cls D cA A) {ad : Nat → Nat} (hL : ol_L ro F ad) {g n : Nat} {So : Nat → Nat} {T : Nat → Nat → Int32} {P : Nat → Nat → Option Nat} (hV : ol_V n So T P) (hg : g < 2) {I0 : Nat → Nat → Int32} {a1 bk : Int32} {Rs : ol_B × ol_Fl} (hR1 : ol_rm R (ol_r 3 0 0) 7 cells slots) (ex : ∀ (I : Nat → Nat → Int32) (b : ol_B) (k : Nat), ol_LI ad g n So T P I0 I b k k → ol_BW n So b (6 * k) → k ≤ b.2.1 0 0 → b.2.1 2 k = b.2.1 0 1 → k = b.2.1 0 0 → Rs = (b, none) → ol_W p l e R s m args below meth c D cA A Q 6 ro I F cells slots 129 [some (.ref (ad 10)), some (.int a1), some (.int bk), some (.int (nI g)), some (.int (nI k)), none] []) (ex2 : ∀ (I2 : Nat → Nat → Int32) (b : ol_B) (u : Nat) (q : Option Nat) (z : Int32) (kc kf : Nat), Rs = (b, some (u, q, z)) → (z = 1 ∨ z = 2 ∨ z = 3 ∨ z = 4 ∨ z = 6) → ol_LI ad g n So T P I0 I2 b kc kf → ol_W p l e R s m args below meth c D cA A Q 6 ro (ol_rfu I2 ad (nI u) (ol_e q) z) F cells slots 120 [some (.ref (ad 10)), none, none, none, none, some (.int (-1000010 - z))] []) : ∀ (d k : Nat) (I : Nat → Nat → Int32) (b : ol_B), k + d = 41 → ol_LI ad g n So T P I0 I b k k → ol_BW n So b (6 * k) → k ≤ b.2.1 0 0 → b.2.1 2 k = b.2.1 0 1 → (¬ bk = 0 → ∀ j, j < k → I (ad 41) j = T 1 (b.2.1 1 j)) → sp_ld So T P (¬ bk = 0) d k b = Rs → ol_W p l e R s m args below meth c D cA A Q 6 ro I F cells slots 94 [some (.ref (ad 10)), some (.int a1), some (.int bk), some (.int (nI g)), some (.int (nI k)), none] [] := by
  have hm : ol_is ro (ad 10) (.inl 9) := hL.is 10 (by decide) (by decide) rfl
  have f_sorts : F (ad 10) 1 = some (ad 22) := hL.mf 1 22 (by decide)
  have i_sorts : ol_is ro (ad 22) (.inr (0, 40)) := hL.is 22 (by decide) (by decide) rfl
  have f_nodes : F (ad 10) 13 = some (ad 31) := hL.mf 13 31 (by decide)
  have i_nodes : ol_is ro (ad 31) (.inr (0, 2)) := hL.is 31 (by decide) (by decide) rfl
  have f_nodeOf : F (ad 10) 15 = some (ad 33) := hL.mf 15 33 (by decide)
  have i_nodeOf : ol_is ro (ad 33) (.inr (0, 80)) := hL.is 33 (by decide) (by decide) rfl
  have f_firstArc : F (ad 10) 17 = some (ad 35) := hL.mf 17 35 (by decide)
  have i_firstArc : ol_is ro (ad 35) (.inr (0, 82)) := hL.is 35 (by decide) (by decide) rfl
  have f_arcsIn : F (ad 10) 18 = some (ad 36) := hL.mf 18 36 (by decide)
  have i_arcsIn : ol_is ro (ad 36) (.inr (0, 2)) := hL.is 36 (by decide) (by decide) rfl
  have f_holeMany : F (ad 10) 22 = some (ad 40) := hL.mf 22 40 (by decide)
  have i_holeMany : ol_is ro (ad 40) (.inr (0, 2)) := hL.is 40 (by decide) (by decide) rfl
  have h40 := hV.1
  intro d
  induction d with
  | zero =>
    intro k I b hk hI hB hle hfa hky hR
    exact absurd hB.le (by omega)
  | succ d ih =>
    intro k I b hk hI hB hle hfa hky hR
    have hle2 := hB.le
    refine ol_iload C dX11_load_94 rfl ?_
    refine ol_aload_n C dX11_load_96 rfl rfl (by first | exact ol_isq_r _ | exact ol_isq_q _ | exact ol_isq_n) ?_
    refine ol_gR (k := 13) C (by assumption) rfl rfl wd_593 (.inl rfl) dX11_load_97 ?_
    refine ol_rf (by assumption) ?_
    refine ol_iload_n C dX11_load_100 rfl rfl ?_
    refine ol_lI g C (by assumption) rfl hg (by decide) dX11_load_101 ?_
    refine ol_ti (show I (ad 31) g = nI (b.2.1 0 0) from hI.2.1.1) ?_
    refine ol_icmp_ge (tgt := 129) C dX11_load_102 (by decide) (fun c_102 => ?_) (fun c_102 => ?_)
    · have hge : b.2.1 0 0 ≤ k := (nI_leI (by omega) (by omega)).mp c_102
      exact ex I b k hI hB hle hfa (by omega) (by rw [← hR, sp_ld, ol_if_f (by omega)])
    · have hlt : k < b.2.1 0 0 := Nat.lt_of_not_le (fun q => c_102 ((nI_leI (by omega) (by omega)).mpr q))
      refine ol_aload_n C dX11_load_105 rfl rfl (by first | exact ol_isq_r _ | exact ol_isq_q _ | exact ol_isq_n) ?_
      refine ol_iload_n C dX11_load_106 rfl rfl ?_
      refine ol_iload C dX11_load_107 rfl ?_
      refine ol_iload_n C dX11_load_109 rfl rfl ?_
      refine ol_callV C (mm_ask l D cA hL hV hg hI hB hlt hfa bk hky) hm.1 hm.2 rfl wd_725 wd_4 wd_722 wd_724 wq_15 mh_X11_ask hR1 rfl (by first | exact Nat.le_of_ble_eq_true rfl | simp [ol_rfc, Value.category]) dX11_load_110 (fun v_110 ro_110 I_110 F_110 hh_110 => ?_)
      obtain ⟨rfl, rfl, w, K, rfl, hao, hK⟩ := hh_110
      obtain ⟨m1, m2, m3, m4, m5, m6⟩ := sp_nd_keep hV (byK := ¬ bk = 0) (M := 6 * k) hlt hB
      rcases hao with ⟨h1, rfl, h2, h3⟩ | ⟨u, q, z, I2, kc, kf, h1, hz, rfl, h2, rfl⟩
      · refine ol_st (st' := [.int _]) rfl ?_
        refine ol_istore C dX11_load_113 (by decide) ?_
        refine ol_iload C dX11_load_115 rfl ?_
        refine ol_if_ge (tgt := 123) C dX11_load_117 (by decide) (fun c_117 => ?_) (fun c_117 => absurd (show (0 : Int32) ≤ 0 by decide) c_117)
        refine ol_iincN C dX11_load_123 rfl (by decide) ?_
        refine ol_goto (tgt := 94) C dX11_load_126 (by decide) ?_
        refine ol_lv (lv' := [some (.ref (ad 10)), some (.int a1), some (.int bk), some (.int (nI g)), some (.int (nI (k + 1))), none]) (by intro i v h; rcases i with _|_|_|_|_|_|i <;> first | exact h | (simp at h)) ?_
        refine ih (k + 1) _ (sp_nd So T P (¬ bk = 0) k b).1 (by omega) h2 (m3.mono (by omega)) (by omega) (m6 h1) (fun hb j hj => ?_) ?_
        · rw [h3, hK hb j hj, m2 j (by omega)]
        · rw [← hR, sp_ld, ol_if_t hlt]
          revert h1
          cases sp_nd So T P (¬ bk = 0) k b with
          | mk b5 f5 =>
            intro h1
            dsimp only at h1
            subst h1
            rfl
      · refine ol_st (st' := [.int _]) rfl ?_
        refine ol_istore C dX11_load_113 (by decide) ?_
        refine ol_iload C dX11_load_115 rfl ?_
        refine ol_if_ge (tgt := 123) C dX11_load_117 (by decide) (fun c_117 => by exfalso; revert c_117; rcases hz with rfl | rfl | rfl | rfl | rfl <;> decide) (fun c_117 => ?_)
        refine ol_lv (lv' := [some (.ref (ad 10)), none, none, none, none, some (.int (-1000010 - z))]) (by intro i v h; rcases i with _|_|_|_|_|_|i <;> first | exact h | (simp at h)) ?_
        refine ex2 I2 (sp_nd So T P (¬ bk = 0) k b).1 u q z kc kf ?_ hz h2
        rw [← hR, sp_ld, ol_if_t hlt]
        revert h1
        cases sp_nd So T P (¬ bk = 0) k b with
        | mk b5 f5 =>
          intro h1
          dsimp only at h1
          subst h1
          rfl
