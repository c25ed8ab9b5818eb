def ol_fi (f : Nat → Int32) (n : Nat) (v : Int32) : Nat → Int32 := fun k => if k < n then v else f k
theorem ol_fi_lt {f : Nat → Int32} {n : Nat} {v : Int32} {k : Nat} (h : k < n) : ol_fi f n v k = v := if_pos h
theorem ol_fi_ge {f : Nat → Int32} {n : Nat} {v : Int32} {k : Nat} (h : ¬ k < n) : ol_fi f n v k = f k := if_neg h

set_option maxRecDepth 100000 in
set_option maxHeartbeats 4000000 in
theorem lp_fill {p : Program} {l : Launch} {e : Env} {R : Room} {s : State} {m : MethodId} {args : Array Value} {below : List Frame} {meth : Method} {c : Code} {D : va_G} {cA : Nat → ClassId} {A : Nat → Prop} {Q : State → Prop} {ro : Nat → Nat} {F : Nat → Nat → Option Nat} {cells slots : Nat} (C : ol_Cx p s m args c cJ7_fill_53178 4 yJ7_fill_53178.cls D cA A) {I0 : Nat → Nat → Int32} {a n : Nat} {v : Int32} (hi : ol_is ro a (.inr (0, n))) (hn : n < 2 ^ 31) (ex : ∀ I : Nat → Nat → Int32, (∀ b, b ≠ a → I b = I0 b) → (∀ j, j < n → I a j = v) → (∀ j, n ≤ j → I a j = I0 a j) → ol_W p l e R s m args below meth c D cA A Q 4 ro I F cells slots 20 [some (.ref a), some (.int v), some (.int (nI n)), some (.int (nI n))] []) : ∀ (d k : Nat) (I : Nat → Nat → Int32), k + d = n → (∀ b, b ≠ a → I b = I0 b) → (∀ j, j < k → I a j = v) → (∀ j, k ≤ j → I a j = I0 a j) → ol_W p l e R s m args below meth c D cA A Q 4 ro I F cells slots 5 [some (.ref a), some (.int v), some (.int (nI k)), some (.int (nI n))] [] := by
  intro d
  induction d with
  | zero =>
    intro k I hk h1 h2 h3
    have hk6 : k = n := by omega
    subst hk6
    refine ol_iload_n C dJ7_fill_53178_5 rfl rfl ?_
    refine ol_iload_n C dJ7_fill_53178_6 rfl rfl ?_
    refine ol_icmp_ge (tgt := 20) C dJ7_fill_53178_7 (by decide) (fun c_7 => ?_) (fun c_7 => absurd (Int32.le_refl (nI k)) c_7)
    exact ex I h1 h2 h3
  | succ d ih =>
    intro k I hk h1 h2 h3
    have hk6 : k < n := by omega
    refine ol_iload_n C dJ7_fill_53178_5 rfl rfl ?_
    refine ol_iload_n C dJ7_fill_53178_6 rfl rfl ?_
    refine ol_icmp_ge (tgt := 20) C dJ7_fill_53178_7 (by decide) (fun c_7 => absurd c_7 (nI_ge hk6 hn)) (fun c_7 => ?_)
    refine ol_aload_n C dJ7_fill_53178_10 rfl rfl (by first | exact ol_isq_r _ | exact ol_isq_q _ | exact ol_isq_n) ?_
    refine ol_iload_n C dJ7_fill_53178_11 rfl rfl ?_
    refine ol_iload_n C dJ7_fill_53178_12 rfl rfl ?_
    refine ol_sI k C hi rfl hk6 hn dJ7_fill_53178_13 ?_
    refine ol_iincN C dJ7_fill_53178_14 rfl (by decide) ?_
    refine ol_goto (tgt := 5) C dJ7_fill_53178_17 (by decide) ?_
    refine ih (k + 1) _ (by omega) (fun b hb => (ol_u2_a I _ hb).trans (h1 b hb)) (fun j hj => ?_) (fun j hj => ?_)
    · by_cases e : j = k
      · subst e
        exact ol_u2_s _ _ _ _
      · rw [ol_u2_k I _ e]
        exact h2 j (by omega)
    · rw [ol_u2_k I _ (by omega)]
      exact h3 j (by omega)

set_option maxRecDepth 100000 in
set_option maxHeartbeats 4000000 in
theorem j_fill (l : Launch) (D : va_G) (cA : Nat → ClassId) {ro : Nat → Nat} {I : Nat → Nat → Int32} {F : Nat → Nat → Option Nat} {a n : Nat} (hi : ol_is ro a (.inr (0, n))) (hn : n < 2 ^ 31) (v : Int32) : ol_M l D cA yJ7_fill_53178 cJ7_fill_53178 4 none (ol_r 0 0 0) [.ref a, .int v] ro I F (ol_ev ro (va_up I a (ol_fi (I a) n v)) F) := by
  refine ol_M.of (by decide +kernel) (Nat.le_of_ble_eq_true rfl) (by simp [Value.category, ol_rfc]) ?_
  intro p e s m args below meth c C hret hlk hin
  refine ol_iconst (v := 0) C dJ7_fill_53178_0 (by decide) ?_
  refine ol_istore_n C dJ7_fill_53178_1 rfl (by decide) ?_
  refine ol_aload_n C dJ7_fill_53178_2 rfl rfl (by first | exact ol_isq_r _ | exact ol_isq_q _ | exact ol_isq_n) ?_
  refine ol_alen (v := nI n) C hi.1 hi.2 rfl rfl dJ7_fill_53178_3 ?_
  refine ol_istore_n C dJ7_fill_53178_4 rfl (by decide) ?_
  refine lp_fill C hi hn (fun I1 h1 h2 h3 => ?_) n 0 I (by omega) (fun _ _ => rfl) (fun j hj => absurd hj (by omega)) (fun _ _ => rfl)
  have e : I1 = va_up I a (ol_fi (I a) n v) := by
    funext b
    by_cases hb : b = a
    · subst hb
      rw [va_up_self]
      funext j
      by_cases hj : j < n
      · rw [ol_fi_lt hj, h2 j hj]
      · rw [ol_fi_ge hj, h3 j (by omega)]
    · rw [va_up_ne _ _ hb, h1 b hb]
  subst e
  exact ol_vret C hret hlk (by decide) (by decide) dJ7_fill_53178_20 ⟨rfl, rfl, rfl, rfl⟩

def ol_bq (ro : Nat → Nat) (q : Option Nat) : Prop := ∃ b, q = some b ∧ ro b = 4

set_option maxRecDepth 100000 in
set_option maxHeartbeats 4000000 in
theorem lp_cut {p : Program} {l : Launch} {e : Env} {R : Room} {s : State} {m : MethodId} {args : Array Value} {below : List Frame} {meth : Method} {c : Code} {D : va_G} {cA : Nat → ClassId} {A : Nat → Prop} {Q : State → Prop} {ro : Nat → Nat} {F : Nat → Nat → Option Nat} {cells slots : Nat} (C : ol_Cx p s m args c cX10_countUpToBridge 4 yX10_countUpToBridge.cls D cA A) {I : Nat → Nat → Int32} {pa ka kn : Nat} (hp : ol_is ro pa (.inr (2, 6))) (hth : ∀ i, i < 6 → ∀ b, F pa i = some b → ol_th ro b) (hk : ka + kn ≤ 6) (ex : (∀ i, i < kn → ¬ ol_bq ro (F pa (ka + i))) → ol_W p l e R s m args below meth c D cA A Q 4 ro I F cells slots 26 [some (.ref pa), some (.int (nI ka)), some (.int (nI kn)), some (.int (nI kn))] []) (ex2 : ∀ k, k < kn → (∀ i, i < k → ¬ ol_bq ro (F pa (ka + i))) → ol_bq ro (F pa (ka + k)) → ol_W p l e R s m args below meth c D cA A Q 4 ro I F cells slots 18 [some (.ref pa), some (.int (nI ka)), some (.int (nI kn)), some (.int (nI k))] []) : ∀ (d k : Nat), k + d = kn → (∀ i, i < k → ¬ ol_bq ro (F pa (ka + i))) → ol_W p l e R s m args below meth c D cA A Q 4 ro I F cells slots 2 [some (.ref pa), some (.int (nI ka)), some (.int (nI kn)), some (.int (nI k))] [] := by
  intro d
  induction d with
  | zero =>
    intro k hk h1
    have hk6 : k = kn := by omega
    subst hk6
    refine ol_iload_n C dX10_countUpToBridge_2 rfl rfl ?_
    refine ol_iload_n C dX10_countUpToBridge_3 rfl rfl ?_
    refine ol_icmp_ge (tgt := 26) C dX10_countUpToBridge_4 (by decide) (fun c_4 => ?_) (fun c_4 => absurd (Int32.le_refl (nI k)) c_4)
    exact ex h1
  | succ d ih =>
    intro k hk h1
    have hk6 : k < kn := by omega
    refine ol_iload_n C dX10_countUpToBridge_2 rfl rfl ?_
    refine ol_iload_n C dX10_countUpToBridge_3 rfl rfl ?_
    refine ol_icmp_ge (tgt := 26) C dX10_countUpToBridge_4 (by decide) (fun c_4 => absurd c_4 (nI_ge hk6 (by omega))) (fun c_4 => ?_)
    refine ol_aload_n C dX10_countUpToBridge_7 rfl rfl (by first | exact ol_isq_r _ | exact ol_isq_q _ | exact ol_isq_n) ?_
    refine ol_iload_n C dX10_countUpToBridge_8 rfl rfl ?_
    refine ol_iload_n C dX10_countUpToBridge_9 rfl rfl ?_
    refine ol_iadd C dX10_countUpToBridge_10 ?_
    refine ol_lT (ka + k) C hp (nI_add _ _) (by omega) (by decide) dX10_countUpToBridge_11 ?_
    refine ol_inq_Bridge C (hth (ka + k) (by omega)) wd_185 dX10_countUpToBridge_12 ?_
    refine ol_if_eq (tgt := 20) C dX10_countUpToBridge_15 (by decide) (fun c_15 => ?_) (fun c_15 => ?_)
    · refine ol_iincN C dX10_countUpToBridge_20 rfl (by decide) ?_
      refine ol_goto (tgt := 2) C dX10_countUpToBridge_23 (by decide) ?_
      refine ih (k + 1) (by omega) (fun i hi => ?_)
      by_cases e : i = k
      · subst e
        exact ol_p_0.mp c_15
      · exact h1 i (by omega)
    · exact ex2 k hk6 h1 (ol_p_n.mp c_15)

/-- m of the kn places from ka on lie ahead of the first bridge -/
def ol_cu (ro : Nat → Nat) (f : Nat → Option Nat) (ka kn m : Nat) : Prop := m ≤ kn ∧ (∀ i, i < m → ¬ ol_bq ro (f (ka + i))) ∧ (m < kn → ol_bq ro (f (ka + m)))

set_option maxRecDepth 100000 in
set_option maxHeartbeats 4000000 in
theorem m_cut (l : Launch) (D : va_G) (cA : Nat → ClassId) {ro : Nat → Nat} {I : Nat → Nat → Int32} {F : Nat → Nat → Option Nat} {pa ka kn : Nat} (hp : ol_is ro pa (.inr (2, 6))) (hth : ∀ i, i < 6 → ∀ b, F pa i = some b → ol_th ro b) (hk : ka + kn ≤ 6) : ol_M l D cA yX10_countUpToBridge cX10_countUpToBridge 4 (some FieldType.int) (ol_r 0 0 0) [.ref pa, .int (nI ka), .int (nI kn)] ro I F (fun v ro' I' F' => ro' = ro ∧ I' = I ∧ F' = F ∧ ∃ m, ol_cu ro (F pa) ka kn m ∧ v = some (.int (nI m))) := by
  refine ol_M.of (by decide +kernel) (Nat.le_of_ble_eq_true rfl) (by simp [Value.category, ol_rfc]) ?_
  intro p e s m args below meth c C hret hlk hin
  refine ol_iconst (v := 0) C dX10_countUpToBridge_0 (by decide) ?_
  refine ol_istore_n C dX10_countUpToBridge_1 rfl (by decide) ?_
  refine lp_cut C hp hth hk (fun h1 => ?_) (fun k hk2 h1 h2 => ?_) kn 0 (by omega) (fun i hi => absurd hi (by omega))
  · refine ol_iload_n C dX10_countUpToBridge_26 rfl rfl ?_
    exact ol_iret C hret hlk rfl (by decide) (by decide) dX10_countUpToBridge_27 ⟨rfl, rfl, rfl, kn, ⟨Nat.le_refl _, h1, fun q => absurd q (Nat.lt_irrefl _)⟩, rfl⟩
  · refine ol_iload_n C dX10_countUpToBridge_18 rfl rfl ?_
    exact ol_iret C hret hlk rfl (by decide) (by decide) dX10_countUpToBridge_19 ⟨rfl, rfl, rfl, k, ⟨by omega, h1, fun _ => h2⟩, rfl⟩

set_option maxRecDepth 100000 in
set_option maxHeartbeats 4000000 in
theorem x_linksCause5 (l : Launch) (D : va_G) (cA : Nat → ClassId) {ro : Nat → Nat} {I : Nat → Nat → Int32} {F : Nat → Nat → Option Nat} {a pa : Nat} (ht : ol_th ro a) (hF : F a 1 = some pa) (hp : ol_is ro pa (.inr (2, 6))) (hth : ∀ i, i < 6 → ∀ b, F pa i = some b → ol_th ro b) : ol_M l D cA yX5_linksCause cX5_linksCause 1 (some FieldType.int) (ol_r 1 0 0) [.ref a] ro I F (ol_ei (ol_if (∃ i, i < 6 ∧ ol_bq ro (F pa i)) 3 0) ro I F) := by
  refine ol_M.of (by decide +kernel) (Nat.le_of_ble_eq_true rfl) (by simp [Value.category, ol_rfc]) ?_
  intro p e s m args below meth c C hret hlk hin
  refine ol_aload_n C dX5_linksCause_0 rfl rfl (by first | exact ol_isq_r _ | exact ol_isq_q _ | exact ol_isq_n) ?_
  refine ol_tgR C (by assumption) ol_tf1 wd_139 (.inr wd_140) dX5_linksCause_1 ?_
  refine ol_rf (by assumption) ?_
  refine ol_iconst (v := 0) C dX5_linksCause_4 (by decide) ?_
  refine ol_bipush (v := 6) C dX5_linksCause_5 (by decide) ?_
  refine ol_callSN (host := "ObjectLoads") C (m_cut l D cA (ka := 0) (kn := 6) hp hth (by omega)) wd_318 wd_1 (by decide) wd_317 mh_X10_countUpToBridge (by decide) rfl (by first | exact Nat.le_of_ble_eq_true rfl | simp [ol_rfc, Value.category]) dX5_linksCause_7 (fun v_7 ro_7 I_7 F_7 hh_7 => ?_)
  obtain ⟨rfl, rfl, rfl, q, ⟨q1, q2, q3⟩, rfl⟩ := hh_7
  refine ol_st (st' := .int _ :: _) rfl ?_
  refine ol_bipush (v := 6) C dX5_linksCause_10 (by decide) ?_
  refine ol_icmp_ge (tgt := 19) C dX5_linksCause_12 (by decide) (fun c_12 => ?_) (fun c_12 => ?_)
  · refine ol_iconst (v := 0) C dX5_linksCause_19 (by decide) ?_
    exact ol_iret C hret hlk rfl (by decide) (by decide) dX5_linksCause_20 ⟨by rw [ol_if_f (fun ⟨i, h1, h2⟩ => q2 i (by have := (nI_leI (a := 6) (by omega) (by omega)).mp c_12; omega) (by rw [Nat.zero_add]; exact h2))], rfl, rfl, rfl⟩
  · refine ol_iconst (v := 3) C dX5_linksCause_15 (by decide) ?_
    refine ol_goto (tgt := 20) C dX5_linksCause_16 (by decide) ?_
    exact ol_iret C hret hlk rfl (by decide) (by decide) dX5_linksCause_20 ⟨by rw [ol_if_t (have hq : q < 6 := Nat.lt_of_not_le (fun z => c_12 ((nI_leI (a := 6) (by omega) (by omega)).mpr z)); ⟨q, hq, by have := q3 hq; rw [Nat.zero_add] at this; exact this⟩)], rfl, rfl, rfl⟩
