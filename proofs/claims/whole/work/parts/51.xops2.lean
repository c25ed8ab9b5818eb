section OLDB
variable {p : Program} {l : Launch} {e : Env} {R : Room} {s : State} {m : MethodId} {args : Array Value} {below : List Frame} {meth : Method} {c : Code} {D : va_G} {cA : Nat → ClassId} {A : Nat → Prop} {Q : State → Prop} {nL : Nat} {ro : Nat → Nat} {I : Nat → Nat → Int32} {F : Nat → Nat → Option Nat} {cells slots pc : Nat} {lv : List (Option Value)} {rest : List Value} {cc : ByteArray} {own : String}
set_option maxRecDepth 100000 in
set_option maxHeartbeats 4000000 in
theorem dvb_keyCause {ad ta pa : Nat → Nat} {n t index : Nat} {So : Nat → Nat} {T : Nat → Nat → Int32} {P : Nat → Nat → Option Nat} (C : ol_Cx p s m args c cc nL "ObjectLoads" D cA A) (hX : ol_XT ro I F ad ta pa n So T P) (hV : ol_V n So T P) (htn : t < n) (hb : So t = 2) (hlink : Cond.methodLink "ObjectLoads" index ⟨"ObjectLoads$Thing", "keyCause", "()I"⟩ ∈ ol_all) (hR : ol_rm R (ol_r 2 0 0) 2 cells slots) (hW : (rest.map fun v => v.category).sum ≤ 8) (hdg : decode cc pc = .ok (.invokevirtual index, 3)) (kk : ol_W p l e R s m args below meth c D cA A Q nL ro I F cells slots (pc + 3) lv (.int (sp_kc So T t) :: rest)) : ol_W p l e R s m args below meth c D cA A Q nL ro I F cells slots pc lv (.ref (ta t) :: rest) := by
  have h6 := (hV.2 t htn).1
  have hx := (hX.2.1 t htn).2
  have ht := hx.th h6
  obtain ⟨hro, -, e2, e3, -⟩ := id hx
  have h0 : ro (ta t) ≠ 0 := by rw [hro]; omega
  have hr : ro (ta t) = 4 := by rw [hro, hb]
  refine ol_callU (As := []) (owner := "ObjectLoads$Thing") (x := ⟨"ObjectLoads$Thing", "keyCause", "()I"⟩) C (x_keyCause9 l D cA ht) h0 (show ol_ct (ro (ta t)) = .inl 3 by rw [hr]; rfl) rfl wd_361 wd_5 hlink wd_818 (by decide) wd_360 wd_819 mhu_ObjectLoads_Thing_keyCause (ol_rm_le hR (by decide) (by decide)) rfl hW hdg (ol_xi ?_)
  rw [show (0 : Int32) = sp_kc So T t from (ol_p_f (fun q => by omega)).symm]
  exact kk

set_option maxRecDepth 100000 in
set_option maxHeartbeats 4000000 in
theorem dvb_toldKey {ad ta pa : Nat → Nat} {n t index : Nat} {So : Nat → Nat} {T : Nat → Nat → Int32} {P : Nat → Nat → Option Nat} (C : ol_Cx p s m args c cc nL "ObjectLoads" D cA A) (hX : ol_XT ro I F ad ta pa n So T P) (hV : ol_V n So T P) (htn : t < n) (hb : So t = 2) (hlink : Cond.methodLink "ObjectLoads" index ⟨"ObjectLoads$Thing", "toldKey", "()I"⟩ ∈ ol_all) (hR : ol_rm R (ol_r 2 0 0) 2 cells slots) (hW : (rest.map fun v => v.category).sum ≤ 8) (hdg : decode cc pc = .ok (.invokevirtual index, 3)) (kk : ol_W p l e R s m args below meth c D cA A Q nL ro I F cells slots (pc + 3) lv (.int (T 1 t) :: rest)) : ol_W p l e R s m args below meth c D cA A Q nL ro I F cells slots pc lv (.ref (ta t) :: rest) := by
  have h6 := (hV.2 t htn).1
  have hx := (hX.2.1 t htn).2
  have ht := hx.th h6
  obtain ⟨hro, -, e2, e3, -⟩ := id hx
  have h0 : ro (ta t) ≠ 0 := by rw [hro]; omega
  have hr : ro (ta t) = 4 := by rw [hro, hb]
  refine ol_callU (As := []) (owner := "ObjectLoads$Thing") (x := ⟨"ObjectLoads$Thing", "toldKey", "()I"⟩) C (x_toldKey l D cA ht) h0 (show ol_ct (ro (ta t)) = .inl 3 by rw [hr]; rfl) rfl wd_376 wd_5 hlink wd_810 (by decide) wd_375 wd_811 mhu_ObjectLoads_Thing_toldKey (ol_rm_le hR (by decide) (by decide)) rfl hW hdg (ol_xi ?_)
  rw [e2]
  exact kk

set_option maxRecDepth 100000 in
set_option maxHeartbeats 4000000 in
theorem dvb_valueCause {ad ta pa : Nat → Nat} {n t index : Nat} {So : Nat → Nat} {T : Nat → Nat → Int32} {P : Nat → Nat → Option Nat} (C : ol_Cx p s m args c cc nL "ObjectLoads" D cA A) (hX : ol_XT ro I F ad ta pa n So T P) (hV : ol_V n So T P) (htn : t < n) (hb : So t = 2) (hlink : Cond.methodLink "ObjectLoads" index ⟨"ObjectLoads$Thing", "valueCause", "()I"⟩ ∈ ol_all) (hR : ol_rm R (ol_r 2 0 0) 2 cells slots) (hW : (rest.map fun v => v.category).sum ≤ 8) (hdg : decode cc pc = .ok (.invokevirtual index, 3)) (kk : ol_W p l e R s m args below meth c D cA A Q nL ro I F cells slots (pc + 3) lv (.int (sp_vc So T t) :: rest)) : ol_W p l e R s m args below meth c D cA A Q nL ro I F cells slots pc lv (.ref (ta t) :: rest) := by
  have h6 := (hV.2 t htn).1
  have hx := (hX.2.1 t htn).2
  have ht := hx.th h6
  obtain ⟨hro, -, e2, e3, -⟩ := id hx
  have h0 : ro (ta t) ≠ 0 := by rw [hro]; omega
  have hr : ro (ta t) = 4 := by rw [hro, hb]
  refine ol_callU (As := []) (owner := "ObjectLoads$Thing") (x := ⟨"ObjectLoads$Thing", "valueCause", "()I"⟩) C (x_valueCause9 l D cA ht) h0 (show ol_ct (ro (ta t)) = .inl 3 by rw [hr]; rfl) rfl wd_393 wd_5 hlink wd_834 (by decide) wd_392 wd_835 mhu_ObjectLoads_Thing_valueCause (ol_rm_le hR (by decide) (by decide)) rfl hW hdg (ol_xi ?_)
  rw [show (0 : Int32) = sp_vc So T t from (ol_if_f (fun q => by omega)).symm]
  exact kk

set_option maxRecDepth 100000 in
set_option maxHeartbeats 4000000 in
theorem dvb_toldValue {ad ta pa : Nat → Nat} {n t index : Nat} {So : Nat → Nat} {T : Nat → Nat → Int32} {P : Nat → Nat → Option Nat} (C : ol_Cx p s m args c cc nL "ObjectLoads" D cA A) (hX : ol_XT ro I F ad ta pa n So T P) (hV : ol_V n So T P) (htn : t < n) (hb : So t = 2) (hlink : Cond.methodLink "ObjectLoads" index ⟨"ObjectLoads$Thing", "toldValue", "()I"⟩ ∈ ol_all) (hR : ol_rm R (ol_r 2 0 0) 2 cells slots) (hW : (rest.map fun v => v.category).sum ≤ 8) (hdg : decode cc pc = .ok (.invokevirtual index, 3)) (kk : ol_W p l e R s m args below meth c D cA A Q nL ro I F cells slots (pc + 3) lv (.int (sp_vv So T t) :: rest)) : ol_W p l e R s m args below meth c D cA A Q nL ro I F cells slots pc lv (.ref (ta t) :: rest) := by
  have h6 := (hV.2 t htn).1
  have hx := (hX.2.1 t htn).2
  have ht := hx.th h6
  obtain ⟨hro, -, e2, e3, -⟩ := id hx
  have h0 : ro (ta t) ≠ 0 := by rw [hro]; omega
  have hr : ro (ta t) = 4 := by rw [hro, hb]
  refine ol_callU (As := []) (owner := "ObjectLoads$Thing") (x := ⟨"ObjectLoads$Thing", "toldValue", "()I"⟩) C (x_toldValue9 l D cA ht) h0 (show ol_ct (ro (ta t)) = .inl 3 by rw [hr]; rfl) rfl wd_413 wd_5 hlink wd_826 (by decide) wd_412 wd_827 mhu_ObjectLoads_Thing_toldValue (ol_rm_le hR (by decide) (by decide)) rfl hW hdg (ol_xi ?_)
  rw [show I (ta t) 3 = sp_vv So T t from by rw [e3]; unfold sp_vv; rw [ol_if_f (P := So t = 3) (by omega), ol_if_f (P := So t = 1) (by omega), ol_if_f (P := So t = 4) (by omega)]]
  exact kk

set_option maxRecDepth 100000 in
set_option maxHeartbeats 4000000 in
theorem dvb_linksCause {ad ta pa : Nat → Nat} {n t index : Nat} {So : Nat → Nat} {T : Nat → Nat → Int32} {P : Nat → Nat → Option Nat} (C : ol_Cx p s m args c cc nL "ObjectLoads" D cA A) (hX : ol_XT ro I F ad ta pa n So T P) (hV : ol_V n So T P) (htn : t < n) (hb : So t = 2) (hlink : Cond.methodLink "ObjectLoads" index ⟨"ObjectLoads$Thing", "linksCause", "()I"⟩ ∈ ol_all) (hR : ol_rm R (ol_r 2 0 0) 2 cells slots) (hW : (rest.map fun v => v.category).sum ≤ 8) (hdg : decode cc pc = .ok (.invokevirtual index, 3)) (kk : ol_W p l e R s m args below meth c D cA A Q nL ro I F cells slots (pc + 3) lv (.int (0) :: rest)) : ol_W p l e R s m args below meth c D cA A Q nL ro I F cells slots pc lv (.ref (ta t) :: rest) := by
  have h6 := (hV.2 t htn).1
  have hx := (hX.2.1 t htn).2
  have ht := hx.th h6
  obtain ⟨hro, -, e2, e3, -⟩ := id hx
  have h0 : ro (ta t) ≠ 0 := by rw [hro]; omega
  have hr : ro (ta t) = 4 := by rw [hro, hb]
  refine ol_callU (As := []) (owner := "ObjectLoads$Thing") (x := ⟨"ObjectLoads$Thing", "linksCause", "()I"⟩) C (x_linksCause9 l D cA ht) h0 (show ol_ct (ro (ta t)) = .inl 3 by rw [hr]; rfl) rfl wd_437 wd_5 hlink wd_850 (by decide) wd_436 wd_851 mhu_ObjectLoads_Thing_linksCause (ol_rm_le hR (by decide) (by decide)) rfl hW hdg (ol_xi ?_)
  exact kk

set_option maxRecDepth 100000 in
set_option maxHeartbeats 4000000 in
theorem dvb_linkCount {ad ta pa : Nat → Nat} {n t index : Nat} {So : Nat → Nat} {T : Nat → Nat → Int32} {P : Nat → Nat → Option Nat} (C : ol_Cx p s m args c cc nL "ObjectLoads" D cA A) (hX : ol_XT ro I F ad ta pa n So T P) (hV : ol_V n So T P) (htn : t < n) (hb : So t = 2) (hlink : Cond.methodLink "ObjectLoads" index ⟨"ObjectLoads$Thing", "linkCount", "()I"⟩ ∈ ol_all) (hR : ol_rm R (ol_r 2 0 0) 2 cells slots) (hW : (rest.map fun v => v.category).sum ≤ 8) (hdg : decode cc pc = .ok (.invokevirtual index, 3)) (kk : ol_W p l e R s m args below meth c D cA A Q nL ro I F cells slots (pc + 3) lv (.int (2) :: rest)) : ol_W p l e R s m args below meth c D cA A Q nL ro I F cells slots pc lv (.ref (ta t) :: rest) := by
  have h6 := (hV.2 t htn).1
  have hx := (hX.2.1 t htn).2
  have ht := hx.th h6
  obtain ⟨hro, -, e2, e3, -⟩ := id hx
  have h0 : ro (ta t) ≠ 0 := by rw [hro]; omega
  have hr : ro (ta t) = 4 := by rw [hro, hb]
  refine ol_callU (As := []) (owner := "ObjectLoads$Thing") (x := ⟨"ObjectLoads$Thing", "linkCount", "()I"⟩) C (x_linkCount0 l D cA ht) h0 (show ol_ct (ro (ta t)) = .inl 3 by rw [hr]; rfl) rfl wd_556 wd_8 hlink wd_842 (by decide) wd_555 wd_843 mhu_ObjectLoads_Thing_linkCount (ol_rm_le hR (by decide) (by decide)) rfl hW hdg (ol_xi ?_)
  exact kk

end OLDB

set_option maxRecDepth 100000 in
set_option maxHeartbeats 4000000 in
theorem x_refused (l : Launch) (D : va_G) (cA : Nat → ClassId) {ro : Nat → Nat} {I : Nat → Nat → Int32} {F : Nat → Nat → Option Nat} {ad : Nat → Nat} (hL : ol_L ro F ad) (t : Int32) : ol_M l D cA yX10_refused cX10_refused 2 (some FieldType.int) (ol_r 0 0 0) [.ref (ad 1), .int t] ro I F (ol_ei (ol_if (ol_k 3 t) (ol_if (I (ad 1) 6 = 0) (-1000009) (ol_if (t = 0) (I (ad 1) 4) (ol_if (t = 1) (I (ad 1) 5) (I (ad 1) 6)))) (-1000002)) ro I F) := by
  refine ol_M.of (by decide +kernel) (Nat.le_of_ble_eq_true rfl) (by simp [Value.category, ol_rfc]) ?_
  intro p e s m args below meth c C hret hlk hin
  have hx1 : ol_is ro (ad 1) (.inl 0) := hL.is 1 (by decide) (by decide) rfl
  refine ol_iload_n C dX10_refused_0 rfl rfl ?_
  refine ol_if_lt (tgt := 9) C dX10_refused_1 (by decide) (fun c_1 => ?_) (fun c_1 => ?_)
  · have hK : ¬ ol_k 3 t := fun q => q.1 c_1
    refine ol_ldc (v := (-1000002)) C wd_115 dX10_refused_9 ?_
    exact ol_iret C hret hlk rfl (by decide) (by decide) dX10_refused_11 ⟨by rw [ol_if_f hK], rfl, rfl, rfl⟩
  · refine ol_iload_n C dX10_refused_4 rfl rfl ?_
    refine ol_iconst (v := 2) C dX10_refused_5 (by decide) ?_
    refine ol_icmp_le (tgt := 12) C dX10_refused_6 (by decide) (fun c_6 => ?_) (fun c_6 => ?_)
    · have hK : ol_k 3 t := ol_k_2.mp ⟨c_1, ol_le_nlt c_6⟩
      refine ol_aload_n C dX10_refused_12 rfl rfl (by first | exact ol_isq_r _ | exact ol_isq_q _ | exact ol_isq_n) ?_
      refine ol_gI (k := 6) C (by assumption) rfl rfl wd_92 (.inl rfl) dX10_refused_13 ?_
      refine ol_if_ne (tgt := 22) C dX10_refused_16 (by decide) (fun c_16 => ?_) (fun c_16 => ?_)
      · refine ol_iload_n C dX10_refused_22 rfl rfl ?_
        rcases ol_k3_012 hK with rfl | rfl | rfl
        · refine ol_lookup (off := 25) (tgt := 48) C dX10_refused_23 (by decide) (by decide) (by decide) ?_
          refine ol_aload_n C dX10_refused_48 rfl rfl (by first | exact ol_isq_r _ | exact ol_isq_q _ | exact ol_isq_n) ?_
          refine ol_gI (k := 4) C (by assumption) rfl rfl wd_90 (.inl rfl) dX10_refused_49 ?_
          exact ol_iret C hret hlk rfl (by decide) (by decide) dX10_refused_52 ⟨by rw [ol_if_t hK, ol_if_f c_16, ol_if_t rfl], rfl, rfl, rfl⟩
        · refine ol_lookup (off := 30) (tgt := 53) C dX10_refused_23 (by decide) (by decide) (by decide) ?_
          refine ol_aload_n C dX10_refused_53 rfl rfl (by first | exact ol_isq_r _ | exact ol_isq_q _ | exact ol_isq_n) ?_
          refine ol_gI (k := 5) C (by assumption) rfl rfl wd_91 (.inl rfl) dX10_refused_54 ?_
          exact ol_iret C hret hlk rfl (by decide) (by decide) dX10_refused_57 ⟨by rw [ol_if_t hK, ol_if_f c_16, ol_if_f (by decide), ol_if_t rfl], rfl, rfl, rfl⟩
        · refine ol_lookup (off := 35) (tgt := 58) C dX10_refused_23 (by decide) (by decide) (by decide) ?_
          refine ol_aload_n C dX10_refused_58 rfl rfl (by first | exact ol_isq_r _ | exact ol_isq_q _ | exact ol_isq_n) ?_
          refine ol_gI (k := 6) C (by assumption) rfl rfl wd_92 (.inl rfl) dX10_refused_59 ?_
          exact ol_iret C hret hlk rfl (by decide) (by decide) dX10_refused_62 ⟨by rw [ol_if_t hK, ol_if_f c_16, ol_if_f (by decide), ol_if_f (by decide)], rfl, rfl, rfl⟩
      · refine ol_ldc (v := (-1000009)) C wd_85 dX10_refused_19 ?_
        exact ol_iret C hret hlk rfl (by decide) (by decide) dX10_refused_21 ⟨by rw [ol_if_t hK, ol_if_t c_16], rfl, rfl, rfl⟩
    · have hK : ¬ ol_k 3 t := fun q => (ol_k_2.mpr q).2 (ol_nle_lt c_6)
      refine ol_ldc (v := (-1000002)) C wd_115 dX10_refused_9 ?_
      exact ol_iret C hret hlk rfl (by decide) (by decide) dX10_refused_11 ⟨by rw [ol_if_f hK], rfl, rfl, rfl⟩

set_option maxRecDepth 100000 in
set_option maxHeartbeats 4000000 in
theorem x_node (l : Launch) (D : va_G) (cA : Nat → ClassId) {ro : Nat → Nat} {I : Nat → Nat → Int32} {F : Nat → Nat → Option Nat} {ad ta pa : Nat → Nat} {n : Nat} {So : Nat → Nat} {T : Nat → Nat → Int32} {P : Nat → Nat → Option Nat} (hV : ol_V n So T P) (hL : ol_L ro F ad) (hT : ol_XT ro I F ad ta pa n So T P) {g : Nat} (hg : g ∈ [50, 60]) (hl : F (ad 1) 2 = some (ad g)) {b : ol_B} (hW : ol_GW n b) (hG : ol_XG (ol_vx I ad g) (F (ad (g + 1))) ta b (b.2.1 0 0) (b.2.1 0 0 + 1)) (t : Int32) : ol_M l D cA yX10_node cX10_node 2 (some FieldType.int) (ol_r 1 0 0) [.ref (ad 1), .int t] ro I F (ol_ei (ol_if (ol_k n t) (ol_e (b.2.2.2 t.toNatClampNeg)) (-1000001)) ro I F) := by
  refine ol_M.of (by decide +kernel) (Nat.le_of_ble_eq_true rfl) (by simp [Value.category, ol_rfc]) ?_
  intro p e s m args below meth c C hret hlk hin
  have h40 := hV.1
  have hx1 : ol_is ro (ad 1) (.inl 0) := hL.is 1 (by decide) (by decide) rfl
  have hx11 : ol_is ro (ad 11) (.inr (2, 40)) := hL.is 11 (by decide) (by decide) rfl
  have hxg : ol_is ro (ad g) (.inl 8) := by rcases ol_5060 hg with rfl | rfl <;> exact hL.is _ (by decide) (by decide) rfl
  have f1 : F (ad g) 0 = some (ad (g + 1)) := by rw [show g + 1 = g + 1 + 0 by omega]; exact hL.gf g 0 hg (by decide)
  have i1 : ol_is ro (ad (g + 1)) (.inr (3, 40)) := by rcases ol_5060 hg with rfl | rfl <;> exact hL.is _ (by decide) (by decide) rfl
  have f2 : F (ad g) 1 = some (ad (g + 2)) := by rw [show g + 2 = g + 1 + 1 by omega]; exact hL.gf g 1 hg (by decide)
  have i2 : ol_is ro (ad (g + 2)) (.inr (0, 40)) := by rcases ol_5060 hg with rfl | rfl <;> exact hL.is _ (by decide) (by decide) rfl
  have f3 : F (ad g) 2 = some (ad (g + 3)) := by rw [show g + 3 = g + 1 + 2 by omega]; exact hL.gf g 2 hg (by decide)
  have i3 : ol_is ro (ad (g + 3)) (.inr (0, 40)) := by rcases ol_5060 hg with rfl | rfl <;> exact hL.is _ (by decide) (by decide) rfl
  have f4 : F (ad g) 3 = some (ad (g + 4)) := by rw [show g + 4 = g + 1 + 3 by omega]; exact hL.gf g 3 hg (by decide)
  have i4 : ol_is ro (ad (g + 4)) (.inr (0, 41)) := by rcases ol_5060 hg with rfl | rfl <;> exact hL.is _ (by decide) (by decide) rfl
  have f5 : F (ad g) 4 = some (ad (g + 5)) := by rw [show g + 5 = g + 1 + 4 by omega]; exact hL.gf g 4 hg (by decide)
  have i5 : ol_is ro (ad (g + 5)) (.inr (0, 240)) := by rcases ol_5060 hg with rfl | rfl <;> exact hL.is _ (by decide) (by decide) rfl
  have f6 : F (ad g) 5 = some (ad (g + 6)) := by rw [show g + 6 = g + 1 + 5 by omega]; exact hL.gf g 5 hg (by decide)
  have i6 : ol_is ro (ad (g + 6)) (.inr (0, 240)) := by rcases ol_5060 hg with rfl | rfl <;> exact hL.is _ (by decide) (by decide) rfl
  have f7 : F (ad g) 6 = some (ad (g + 7)) := by rw [show g + 7 = g + 1 + 6 by omega]; exact hL.gf g 6 hg (by decide)
  have i7 : ol_is ro (ad (g + 7)) (.inr (1, 240)) := by rcases ol_5060 hg with rfl | rfl <;> exact hL.is _ (by decide) (by decide) rfl
  refine ol_aload_n C dX10_node_0 rfl rfl (by first | exact ol_isq_r _ | exact ol_isq_q _ | exact ol_isq_n) ?_
  refine ol_iload_n C dX10_node_1 rfl rfl ?_
  refine ol_callV C (m_isThing l D cA hx1 t) hx1.1 hx1.2 rfl wd_280 wd_1 wd_277 wd_279 wq_1 mh_X10_isThing (by decide) rfl (by first | exact Nat.le_of_ble_eq_true rfl | simp [ol_rfc, Value.category]) dX10_node_2 (ol_xi ?_)
  rw [hT.1, show ol_p (¬ t < 0 ∧ ¬ nI n ≤ t) = ol_p (ol_k n t) from rfl]
  refine ol_if_eq (tgt := 20) C dX10_node_5 (by decide) (fun c_5 => ?_) (fun c_5 => ?_)
  · have hK : ¬ ol_k n t := ol_p_0.mp c_5
    refine ol_ldc (v := (-1000001)) C wd_281 dX10_node_20 ?_
    exact ol_iret C hret hlk rfl (by decide) (by decide) dX10_node_22 ⟨by rw [ol_if_f hK], rfl, rfl, rfl⟩
  · have hK : ol_k n t := ol_p_n.mp c_5
    obtain ⟨j, hj, rfl, hj31⟩ := ol_k_ix hK h40
    refine ol_aload_n C dX10_node_8 rfl rfl (by first | exact ol_isq_r _ | exact ol_isq_q _ | exact ol_isq_n) ?_
    refine ol_gR (k := 2) C (by assumption) rfl rfl wd_88 (.inl rfl) dX10_node_9 ?_
    refine ol_rf hl ?_
    refine ol_gR (k := 1) C (by assumption) rfl rfl wd_39 (.inl rfl) dX10_node_12 ?_
    refine ol_rf (by assumption) ?_
    refine ol_iload_n C dX10_node_15 rfl rfl ?_
    refine ol_lI j C (by assumption) rfl (by omega) (by decide) dX10_node_16 ?_
    refine ol_ti (show I (ad (g + 2)) j = ol_e (b.2.2.2 j) from hG.2.2.2.2.1 j (by omega)) ?_
    refine ol_goto (tgt := 22) C dX10_node_17 (by decide) ?_
    exact ol_iret C hret hlk rfl (by decide) (by decide) dX10_node_22 ⟨by rw [ol_if_t hK, nI_clamp hj31], rfl, rfl, rfl⟩

set_option maxRecDepth 100000 in
set_option maxHeartbeats 4000000 in
theorem x_of (l : Launch) (D : va_G) (cA : Nat → ClassId) {ro : Nat → Nat} {I : Nat → Nat → Int32} {F : Nat → Nat → Option Nat} {ad ta pa : Nat → Nat} {n : Nat} {So : Nat → Nat} {T : Nat → Nat → Int32} {P : Nat → Nat → Option Nat} (hV : ol_V n So T P) (hL : ol_L ro F ad) (hT : ol_XT ro I F ad ta pa n So T P) {g : Nat} (hg : g ∈ [50, 60]) (hl : F (ad 1) 2 = some (ad g)) {b : ol_B} (hW : ol_GW n b) (hG : ol_XG (ol_vx I ad g) (F (ad (g + 1))) ta b (b.2.1 0 0) (b.2.1 0 0 + 1)) (t : Int32) : ol_M l D cA yX10_of cX10_of 2 (some FieldType.int) (ol_r 1 0 0) [.ref (ad 1), .int t] ro I F (ol_ei (ol_if (ol_k (b.2.1 0 0) t) (nI (b.2.1 1 t.toNatClampNeg)) (-1000001)) ro I F) := by
  refine ol_M.of (by decide +kernel) (Nat.le_of_ble_eq_true rfl) (by simp [Value.category, ol_rfc]) ?_
  intro p e s m args below meth c C hret hlk hin
  have h40 := hV.1
  have hx1 : ol_is ro (ad 1) (.inl 0) := hL.is 1 (by decide) (by decide) rfl
  have hx11 : ol_is ro (ad 11) (.inr (2, 40)) := hL.is 11 (by decide) (by decide) rfl
  have hxg : ol_is ro (ad g) (.inl 8) := by rcases ol_5060 hg with rfl | rfl <;> exact hL.is _ (by decide) (by decide) rfl
  have f1 : F (ad g) 0 = some (ad (g + 1)) := by rw [show g + 1 = g + 1 + 0 by omega]; exact hL.gf g 0 hg (by decide)
  have i1 : ol_is ro (ad (g + 1)) (.inr (3, 40)) := by rcases ol_5060 hg with rfl | rfl <;> exact hL.is _ (by decide) (by decide) rfl
  have f2 : F (ad g) 1 = some (ad (g + 2)) := by rw [show g + 2 = g + 1 + 1 by omega]; exact hL.gf g 1 hg (by decide)
  have i2 : ol_is ro (ad (g + 2)) (.inr (0, 40)) := by rcases ol_5060 hg with rfl | rfl <;> exact hL.is _ (by decide) (by decide) rfl
  have f3 : F (ad g) 2 = some (ad (g + 3)) := by rw [show g + 3 = g + 1 + 2 by omega]; exact hL.gf g 2 hg (by decide)
  have i3 : ol_is ro (ad (g + 3)) (.inr (0, 40)) := by rcases ol_5060 hg with rfl | rfl <;> exact hL.is _ (by decide) (by decide) rfl
  have f4 : F (ad g) 3 = some (ad (g + 4)) := by rw [show g + 4 = g + 1 + 3 by omega]; exact hL.gf g 3 hg (by decide)
  have i4 : ol_is ro (ad (g + 4)) (.inr (0, 41)) := by rcases ol_5060 hg with rfl | rfl <;> exact hL.is _ (by decide) (by decide) rfl
  have f5 : F (ad g) 4 = some (ad (g + 5)) := by rw [show g + 5 = g + 1 + 4 by omega]; exact hL.gf g 4 hg (by decide)
  have i5 : ol_is ro (ad (g + 5)) (.inr (0, 240)) := by rcases ol_5060 hg with rfl | rfl <;> exact hL.is _ (by decide) (by decide) rfl
  have f6 : F (ad g) 5 = some (ad (g + 6)) := by rw [show g + 6 = g + 1 + 5 by omega]; exact hL.gf g 5 hg (by decide)
  have i6 : ol_is ro (ad (g + 6)) (.inr (0, 240)) := by rcases ol_5060 hg with rfl | rfl <;> exact hL.is _ (by decide) (by decide) rfl
  have f7 : F (ad g) 6 = some (ad (g + 7)) := by rw [show g + 7 = g + 1 + 6 by omega]; exact hL.gf g 6 hg (by decide)
  have i7 : ol_is ro (ad (g + 7)) (.inr (1, 240)) := by rcases ol_5060 hg with rfl | rfl <;> exact hL.is _ (by decide) (by decide) rfl
  refine ol_aload_n C dX10_of_0 rfl rfl (by first | exact ol_isq_r _ | exact ol_isq_q _ | exact ol_isq_n) ?_
  refine ol_gR (k := 2) C (by assumption) rfl rfl wd_88 (.inl rfl) dX10_of_1 ?_
  refine ol_rf hl ?_
  refine ol_iload_n C dX10_of_4 rfl rfl ?_
  refine ol_callV C (m_hasNode l D cA hxg t) hxg.1 hxg.2 rfl wd_510 wd_2 wd_507 wd_508 wd_509 mh_X4_hasNode (by decide) rfl (by first | exact Nat.le_of_ble_eq_true rfl | simp [ol_rfc, Value.category]) dX10_of_5 (ol_xi ?_)
  rw [show I (ad g) 9 = nI (b.2.1 0 0) from hG.1, show ol_p (¬ t < 0 ∧ ¬ nI (b.2.1 0 0) ≤ t) = ol_p (ol_k (b.2.1 0 0) t) from rfl]
  refine ol_if_eq (tgt := 26) C dX10_of_8 (by decide) (fun c_8 => ?_) (fun c_8 => ?_)
  · have hK : ¬ ol_k (b.2.1 0 0) t := ol_p_0.mp c_8
    refine ol_ldc (v := (-1000001)) C wd_281 dX10_of_26 ?_
    exact ol_iret C hret hlk rfl (by decide) (by decide) dX10_of_28 ⟨by rw [ol_if_f hK], rfl, rfl, rfl⟩
  · have hK : ol_k (b.2.1 0 0) t := ol_p_n.mp c_8
    obtain ⟨j, hj, rfl, hj31⟩ := ol_k_ix hK hW.1
    have w1 := hW.1
    have hu := hW.2.1 j hj
    have hxu := (hT.2.1 (b.2.1 1 j) hu).2
    have htu := hxu.th (hV.2 _ hu).1
    refine ol_aload_n C dX10_of_11 rfl rfl (by first | exact ol_isq_r _ | exact ol_isq_q _ | exact ol_isq_n) ?_
    refine ol_gR (k := 2) C (by assumption) rfl rfl wd_88 (.inl rfl) dX10_of_12 ?_
    refine ol_rf hl ?_
    refine ol_gR (k := 0) C (by assumption) rfl rfl wd_37 (.inl rfl) dX10_of_15 ?_
    refine ol_rf (by assumption) ?_
    refine ol_iload_n C dX10_of_18 rfl rfl ?_
    refine ol_lN j C (by assumption) rfl (by omega) (by decide) dX10_of_19 ?_
    refine ol_rf (hG.2.2.2.1 j hj) ?_
    refine ol_tgI C htu ol_tf0 wd_136 (.inr wd_135) dX10_of_20 ?_
    refine ol_ti hxu.2.1 ?_
    refine ol_goto (tgt := 28) C dX10_of_23 (by decide) ?_
    exact ol_iret C hret hlk rfl (by decide) (by decide) dX10_of_28 ⟨by rw [ol_if_t hK, nI_clamp hj31], rfl, rfl, rfl⟩

set_option maxRecDepth 100000 in
set_option maxHeartbeats 4000000 in
theorem x_column (l : Launch) (D : va_G) (cA : Nat → ClassId) {ro : Nat → Nat} {I : Nat → Nat → Int32} {F : Nat → Nat → Option Nat} {ad ta pa : Nat → Nat} {n : Nat} {So : Nat → Nat} {T : Nat → Nat → Int32} {P : Nat → Nat → Option Nat} (hV : ol_V n So T P) (hL : ol_L ro F ad) (hT : ol_XT ro I F ad ta pa n So T P) {g : Nat} (hg : g ∈ [50, 60]) (hl : F (ad 1) 2 = some (ad g)) {b : ol_B} (hW : ol_GW n b) (hG : ol_XG (ol_vx I ad g) (F (ad (g + 1))) ta b (b.2.1 0 0) (b.2.1 0 0 + 1)) (t : Int32) : ol_M l D cA yX10_column cX10_column 2 (some FieldType.int) (ol_r 1 0 0) [.ref (ad 1), .int t] ro I F (ol_ei (ol_if (ol_k (b.2.1 0 0) t) (b.2.2.1 0 t.toNatClampNeg) (-1000001)) ro I F) := by
  refine ol_M.of (by decide +kernel) (Nat.le_of_ble_eq_true rfl) (by simp [Value.category, ol_rfc]) ?_
  intro p e s m args below meth c C hret hlk hin
  have h40 := hV.1
  have hx1 : ol_is ro (ad 1) (.inl 0) := hL.is 1 (by decide) (by decide) rfl
  have hx11 : ol_is ro (ad 11) (.inr (2, 40)) := hL.is 11 (by decide) (by decide) rfl
  have hxg : ol_is ro (ad g) (.inl 8) := by rcases ol_5060 hg with rfl | rfl <;> exact hL.is _ (by decide) (by decide) rfl
  have f1 : F (ad g) 0 = some (ad (g + 1)) := by rw [show g + 1 = g + 1 + 0 by omega]; exact hL.gf g 0 hg (by decide)
  have i1 : ol_is ro (ad (g + 1)) (.inr (3, 40)) := by rcases ol_5060 hg with rfl | rfl <;> exact hL.is _ (by decide) (by decide) rfl
  have f2 : F (ad g) 1 = some (ad (g + 2)) := by rw [show g + 2 = g + 1 + 1 by omega]; exact hL.gf g 1 hg (by decide)
  have i2 : ol_is ro (ad (g + 2)) (.inr (0, 40)) := by rcases ol_5060 hg with rfl | rfl <;> exact hL.is _ (by decide) (by decide) rfl
  have f3 : F (ad g) 2 = some (ad (g + 3)) := by rw [show g + 3 = g + 1 + 2 by omega]; exact hL.gf g 2 hg (by decide)
  have i3 : ol_is ro (ad (g + 3)) (.inr (0, 40)) := by rcases ol_5060 hg with rfl | rfl <;> exact hL.is _ (by decide) (by decide) rfl
  have f4 : F (ad g) 3 = some (ad (g + 4)) := by rw [show g + 4 = g + 1 + 3 by omega]; exact hL.gf g 3 hg (by decide)
  have i4 : ol_is ro (ad (g + 4)) (.inr (0, 41)) := by rcases ol_5060 hg with rfl | rfl <;> exact hL.is _ (by decide) (by decide) rfl
  have f5 : F (ad g) 4 = some (ad (g + 5)) := by rw [show g + 5 = g + 1 + 4 by omega]; exact hL.gf g 4 hg (by decide)
  have i5 : ol_is ro (ad (g + 5)) (.inr (0, 240)) := by rcases ol_5060 hg with rfl | rfl <;> exact hL.is _ (by decide) (by decide) rfl
  have f6 : F (ad g) 5 = some (ad (g + 6)) := by rw [show g + 6 = g + 1 + 5 by omega]; exact hL.gf g 5 hg (by decide)
  have i6 : ol_is ro (ad (g + 6)) (.inr (0, 240)) := by rcases ol_5060 hg with rfl | rfl <;> exact hL.is _ (by decide) (by decide) rfl
  have f7 : F (ad g) 6 = some (ad (g + 7)) := by rw [show g + 7 = g + 1 + 6 by omega]; exact hL.gf g 6 hg (by decide)
  have i7 : ol_is ro (ad (g + 7)) (.inr (1, 240)) := by rcases ol_5060 hg with rfl | rfl <;> exact hL.is _ (by decide) (by decide) rfl
  refine ol_aload_n C dX10_column_0 rfl rfl (by first | exact ol_isq_r _ | exact ol_isq_q _ | exact ol_isq_n) ?_
  refine ol_gR (k := 2) C (by assumption) rfl rfl wd_88 (.inl rfl) dX10_column_1 ?_
  refine ol_rf hl ?_
  refine ol_iload_n C dX10_column_4 rfl rfl ?_
  refine ol_callV C (m_hasNode l D cA hxg t) hxg.1 hxg.2 rfl wd_510 wd_2 wd_507 wd_508 wd_509 mh_X4_hasNode (by decide) rfl (by first | exact Nat.le_of_ble_eq_true rfl | simp [ol_rfc, Value.category]) dX10_column_5 (ol_xi ?_)
  rw [show I (ad g) 9 = nI (b.2.1 0 0) from hG.1, show ol_p (¬ t < 0 ∧ ¬ nI (b.2.1 0 0) ≤ t) = ol_p (ol_k (b.2.1 0 0) t) from rfl]
  refine ol_if_eq (tgt := 23) C dX10_column_8 (by decide) (fun c_8 => ?_) (fun c_8 => ?_)
  · have hK : ¬ ol_k (b.2.1 0 0) t := ol_p_0.mp c_8
    refine ol_ldc (v := (-1000001)) C wd_281 dX10_column_23 ?_
    exact ol_iret C hret hlk rfl (by decide) (by decide) dX10_column_25 ⟨by rw [ol_if_f hK], rfl, rfl, rfl⟩
  · have hK : ol_k (b.2.1 0 0) t := ol_p_n.mp c_8
    obtain ⟨j, hj, rfl, hj31⟩ := ol_k_ix hK hW.1
    have w1 := hW.1
    refine ol_aload_n C dX10_column_11 rfl rfl (by first | exact ol_isq_r _ | exact ol_isq_q _ | exact ol_isq_n) ?_
    refine ol_gR (k := 2) C (by assumption) rfl rfl wd_88 (.inl rfl) dX10_column_12 ?_
    refine ol_rf hl ?_
    refine ol_gR (k := 2) C (by assumption) rfl rfl wd_41 (.inl rfl) dX10_column_15 ?_
    refine ol_rf (by assumption) ?_
    refine ol_iload_n C dX10_column_18 rfl rfl ?_
    refine ol_lI j C (by assumption) rfl (by omega) (by decide) dX10_column_19 ?_
    refine ol_ti (show I (ad (g + 3)) j = b.2.2.1 0 j from hG.2.2.2.2.2.1 j hj) ?_
    refine ol_goto (tgt := 25) C dX10_column_20 (by decide) ?_
    exact ol_iret C hret hlk rfl (by decide) (by decide) dX10_column_25 ⟨by rw [ol_if_t hK, nI_clamp hj31], rfl, rfl, rfl⟩

set_option maxRecDepth 100000 in
set_option maxHeartbeats 4000000 in
theorem x_arcs (l : Launch) (D : va_G) (cA : Nat → ClassId) {ro : Nat → Nat} {I : Nat → Nat → Int32} {F : Nat → Nat → Option Nat} {ad ta pa : Nat → Nat} {n : Nat} {So : Nat → Nat} {T : Nat → Nat → Int32} {P : Nat → Nat → Option Nat} (hV : ol_V n So T P) (hL : ol_L ro F ad) (hT : ol_XT ro I F ad ta pa n So T P) {g : Nat} (hg : g ∈ [50, 60]) (hl : F (ad 1) 2 = some (ad g)) {b : ol_B} (hW : ol_GW n b) (hG : ol_XG (ol_vx I ad g) (F (ad (g + 1))) ta b (b.2.1 0 0) (b.2.1 0 0 + 1)) (t : Int32) : ol_M l D cA yX10_arcs cX10_arcs 2 (some FieldType.int) (ol_r 1 0 0) [.ref (ad 1), .int t] ro I F (ol_ei (ol_if (ol_k (b.2.1 0 0) t) (nI (b.2.1 2 (t.toNatClampNeg + 1) - b.2.1 2 t.toNatClampNeg)) (-1000001)) ro I F) := by
  refine ol_M.of (by decide +kernel) (Nat.le_of_ble_eq_true rfl) (by simp [Value.category, ol_rfc]) ?_
  intro p e s m args below meth c C hret hlk hin
  have h40 := hV.1
  have hx1 : ol_is ro (ad 1) (.inl 0) := hL.is 1 (by decide) (by decide) rfl
  have hx11 : ol_is ro (ad 11) (.inr (2, 40)) := hL.is 11 (by decide) (by decide) rfl
  have hxg : ol_is ro (ad g) (.inl 8) := by rcases ol_5060 hg with rfl | rfl <;> exact hL.is _ (by decide) (by decide) rfl
  have f1 : F (ad g) 0 = some (ad (g + 1)) := by rw [show g + 1 = g + 1 + 0 by omega]; exact hL.gf g 0 hg (by decide)
  have i1 : ol_is ro (ad (g + 1)) (.inr (3, 40)) := by rcases ol_5060 hg with rfl | rfl <;> exact hL.is _ (by decide) (by decide) rfl
  have f2 : F (ad g) 1 = some (ad (g + 2)) := by rw [show g + 2 = g + 1 + 1 by omega]; exact hL.gf g 1 hg (by decide)
  have i2 : ol_is ro (ad (g + 2)) (.inr (0, 40)) := by rcases ol_5060 hg with rfl | rfl <;> exact hL.is _ (by decide) (by decide) rfl
  have f3 : F (ad g) 2 = some (ad (g + 3)) := by rw [show g + 3 = g + 1 + 2 by omega]; exact hL.gf g 2 hg (by decide)
  have i3 : ol_is ro (ad (g + 3)) (.inr (0, 40)) := by rcases ol_5060 hg with rfl | rfl <;> exact hL.is _ (by decide) (by decide) rfl
  have f4 : F (ad g) 3 = some (ad (g + 4)) := by rw [show g + 4 = g + 1 + 3 by omega]; exact hL.gf g 3 hg (by decide)
  have i4 : ol_is ro (ad (g + 4)) (.inr (0, 41)) := by rcases ol_5060 hg with rfl | rfl <;> exact hL.is _ (by decide) (by decide) rfl
  have f5 : F (ad g) 4 = some (ad (g + 5)) := by rw [show g + 5 = g + 1 + 4 by omega]; exact hL.gf g 4 hg (by decide)
  have i5 : ol_is ro (ad (g + 5)) (.inr (0, 240)) := by rcases ol_5060 hg with rfl | rfl <;> exact hL.is _ (by decide) (by decide) rfl
  have f6 : F (ad g) 5 = some (ad (g + 6)) := by rw [show g + 6 = g + 1 + 5 by omega]; exact hL.gf g 5 hg (by decide)
  have i6 : ol_is ro (ad (g + 6)) (.inr (0, 240)) := by rcases ol_5060 hg with rfl | rfl <;> exact hL.is _ (by decide) (by decide) rfl
  have f7 : F (ad g) 6 = some (ad (g + 7)) := by rw [show g + 7 = g + 1 + 6 by omega]; exact hL.gf g 6 hg (by decide)
  have i7 : ol_is ro (ad (g + 7)) (.inr (1, 240)) := by rcases ol_5060 hg with rfl | rfl <;> exact hL.is _ (by decide) (by decide) rfl
  refine ol_aload_n C dX10_arcs_0 rfl rfl (by first | exact ol_isq_r _ | exact ol_isq_q _ | exact ol_isq_n) ?_
  refine ol_gR (k := 2) C (by assumption) rfl rfl wd_88 (.inl rfl) dX10_arcs_1 ?_
  refine ol_rf hl ?_
  refine ol_iload_n C dX10_arcs_4 rfl rfl ?_
  refine ol_callV C (m_hasNode l D cA hxg t) hxg.1 hxg.2 rfl wd_510 wd_2 wd_507 wd_508 wd_509 mh_X4_hasNode (by decide) rfl (by first | exact Nat.le_of_ble_eq_true rfl | simp [ol_rfc, Value.category]) dX10_arcs_5 (ol_xi ?_)
  rw [show I (ad g) 9 = nI (b.2.1 0 0) from hG.1, show ol_p (¬ t < 0 ∧ ¬ nI (b.2.1 0 0) ≤ t) = ol_p (ol_k (b.2.1 0 0) t) from rfl]
  refine ol_if_eq (tgt := 22) C dX10_arcs_8 (by decide) (fun c_8 => ?_) (fun c_8 => ?_)
  · have hK : ¬ ol_k (b.2.1 0 0) t := ol_p_0.mp c_8
    refine ol_ldc (v := (-1000001)) C wd_281 dX10_arcs_22 ?_
    exact ol_iret C hret hlk rfl (by decide) (by decide) dX10_arcs_24 ⟨by rw [ol_if_f hK], rfl, rfl, rfl⟩
  · have hK : ol_k (b.2.1 0 0) t := ol_p_n.mp c_8
    obtain ⟨j, hj, rfl, hj31⟩ := ol_k_ix hK hW.1
    have w1 := hW.1
    refine ol_aload_n C dX10_arcs_11 rfl rfl (by first | exact ol_isq_r _ | exact ol_isq_q _ | exact ol_isq_n) ?_
    refine ol_gR (k := 2) C (by assumption) rfl rfl wd_88 (.inl rfl) dX10_arcs_12 ?_
    refine ol_rf hl ?_
    refine ol_iload_n C dX10_arcs_15 rfl rfl ?_
    refine ol_callV C (m_arcsOf l D cA hxg f4 i4 (n := j) (by omega)) hxg.1 hxg.2 rfl wd_522 wd_2 wd_519 wd_520 wd_521 mh_X4_arcsOf (by decide) rfl (by first | exact Nat.le_of_ble_eq_true rfl | simp [ol_rfc, Value.category]) dX10_arcs_16 (ol_xi ?_)
    have em := hW.2.2.2.2.2.2.1 j hj
    have e2 : I (ad (g + 4)) (j + 1) - I (ad (g + 4)) j = nI (b.2.1 2 (j + 1) - b.2.1 2 j) := by
      rw [show I (ad (g + 4)) (j + 1) = nI (b.2.1 2 (j + 1)) from hG.2.2.2.2.2.2.1 (j + 1) (by omega), show I (ad (g + 4)) j = nI (b.2.1 2 j) from hG.2.2.2.2.2.2.1 j (by omega)]
      exact pk_sub em
    rw [e2]
    refine ol_goto (tgt := 24) C dX10_arcs_19 (by decide) ?_
    exact ol_iret C hret hlk rfl (by decide) (by decide) dX10_arcs_24 ⟨by rw [ol_if_t hK, nI_clamp hj31], rfl, rfl, rfl⟩

set_option maxRecDepth 100000 in
set_option maxHeartbeats 4000000 in
theorem x_holes (l : Launch) (D : va_G) (cA : Nat → ClassId) {ro : Nat → Nat} {I : Nat → Nat → Int32} {F : Nat → Nat → Option Nat} {ad ta pa : Nat → Nat} {n : Nat} {So : Nat → Nat} {T : Nat → Nat → Int32} {P : Nat → Nat → Option Nat} (hV : ol_V n So T P) (hL : ol_L ro F ad) (hT : ol_XT ro I F ad ta pa n So T P) {g : Nat} (hg : g ∈ [50, 60]) (hl : F (ad 1) 2 = some (ad g)) {b : ol_B} (hW : ol_GW n b) (hG : ol_XG (ol_vx I ad g) (F (ad (g + 1))) ta b (b.2.1 0 0) (b.2.1 0 0 + 1))  : ol_M l D cA yX10_holes cX10_holes 1 (some FieldType.int) (ol_r 0 0 0) [.ref (ad 1)] ro I F (ol_ei (nI (b.2.1 0 2)) ro I F) := by
  refine ol_M.of (by decide +kernel) (Nat.le_of_ble_eq_true rfl) (by simp [Value.category, ol_rfc]) ?_
  intro p e s m args below meth c C hret hlk hin
  have h40 := hV.1
  have hx1 : ol_is ro (ad 1) (.inl 0) := hL.is 1 (by decide) (by decide) rfl
  have hx11 : ol_is ro (ad 11) (.inr (2, 40)) := hL.is 11 (by decide) (by decide) rfl
  have hxg : ol_is ro (ad g) (.inl 8) := by rcases ol_5060 hg with rfl | rfl <;> exact hL.is _ (by decide) (by decide) rfl
  have f1 : F (ad g) 0 = some (ad (g + 1)) := by rw [show g + 1 = g + 1 + 0 by omega]; exact hL.gf g 0 hg (by decide)
  have i1 : ol_is ro (ad (g + 1)) (.inr (3, 40)) := by rcases ol_5060 hg with rfl | rfl <;> exact hL.is _ (by decide) (by decide) rfl
  have f2 : F (ad g) 1 = some (ad (g + 2)) := by rw [show g + 2 = g + 1 + 1 by omega]; exact hL.gf g 1 hg (by decide)
  have i2 : ol_is ro (ad (g + 2)) (.inr (0, 40)) := by rcases ol_5060 hg with rfl | rfl <;> exact hL.is _ (by decide) (by decide) rfl
  have f3 : F (ad g) 2 = some (ad (g + 3)) := by rw [show g + 3 = g + 1 + 2 by omega]; exact hL.gf g 2 hg (by decide)
  have i3 : ol_is ro (ad (g + 3)) (.inr (0, 40)) := by rcases ol_5060 hg with rfl | rfl <;> exact hL.is _ (by decide) (by decide) rfl
  have f4 : F (ad g) 3 = some (ad (g + 4)) := by rw [show g + 4 = g + 1 + 3 by omega]; exact hL.gf g 3 hg (by decide)
  have i4 : ol_is ro (ad (g + 4)) (.inr (0, 41)) := by rcases ol_5060 hg with rfl | rfl <;> exact hL.is _ (by decide) (by decide) rfl
  have f5 : F (ad g) 4 = some (ad (g + 5)) := by rw [show g + 5 = g + 1 + 4 by omega]; exact hL.gf g 4 hg (by decide)
  have i5 : ol_is ro (ad (g + 5)) (.inr (0, 240)) := by rcases ol_5060 hg with rfl | rfl <;> exact hL.is _ (by decide) (by decide) rfl
  have f6 : F (ad g) 5 = some (ad (g + 6)) := by rw [show g + 6 = g + 1 + 5 by omega]; exact hL.gf g 5 hg (by decide)
  have i6 : ol_is ro (ad (g + 6)) (.inr (0, 240)) := by rcases ol_5060 hg with rfl | rfl <;> exact hL.is _ (by decide) (by decide) rfl
  have f7 : F (ad g) 6 = some (ad (g + 7)) := by rw [show g + 7 = g + 1 + 6 by omega]; exact hL.gf g 6 hg (by decide)
  have i7 : ol_is ro (ad (g + 7)) (.inr (1, 240)) := by rcases ol_5060 hg with rfl | rfl <;> exact hL.is _ (by decide) (by decide) rfl
  refine ol_aload_n C dX10_holes_0 rfl rfl (by first | exact ol_isq_r _ | exact ol_isq_q _ | exact ol_isq_n) ?_
  refine ol_gR (k := 2) C (by assumption) rfl rfl wd_88 (.inl rfl) dX10_holes_1 ?_
  refine ol_rf hl ?_
  refine ol_gI (k := 11) C (by assumption) rfl rfl wd_57 (.inl rfl) dX10_holes_4 ?_
  refine ol_ti (show I (ad g) 11 = nI (b.2.1 0 2) from hG.2.2.1) ?_
  exact ol_iret C hret hlk rfl (by decide) (by decide) dX10_holes_7 ⟨rfl, rfl, rfl, rfl⟩

theorem ol_lt_nle {x y : Int32} (h : x < y) : ¬ y ≤ x := by
  rw [Int32.lt_iff_toInt_lt] at h
  rw [Int32.le_iff_toInt_le]
  omega
theorem ol_kix240 {n : Nat} {t : Int32} (h : ol_k n t) (hn : n ≤ 240) : ∃ j, j < n ∧ t = nI j ∧ j < 2 ^ 31 := by
  obtain ⟨j, h1, h2⟩ := pk_mu h.1 h.2 (by omega)
  exact ⟨j, h1, h2.1, by omega⟩
set_option maxRecDepth 100000 in
set_option maxHeartbeats 4000000 in
theorem x_arc (l : Launch) (D : va_G) (cA : Nat → ClassId) {ro : Nat → Nat} {I : Nat → Nat → Int32} {F : Nat → Nat → Option Nat} {ad ta pa : Nat → Nat} {n : Nat} {So : Nat → Nat} {T : Nat → Nat → Int32} {P : Nat → Nat → Option Nat} (hV : ol_V n So T P) (hL : ol_L ro F ad) (hT : ol_XT ro I F ad ta pa n So T P) {g : Nat} (hg : g ∈ [50, 60]) (hl : F (ad 1) 2 = some (ad g)) {b : ol_B} (hW : ol_GW n b) (hG : ol_XG (ol_vx I ad g) (F (ad (g + 1))) ta b (b.2.1 0 0) (b.2.1 0 0 + 1)) (t k v : Int32) : ol_M l D cA yX10_arc cX10_arc 5 (some FieldType.int) (ol_r 1 0 0) [.ref (ad 1), .int t, .int k, .int v] ro I F (ol_ei (sp_ac b t k v) ro I F) := by
  refine ol_M.of (by decide +kernel) (Nat.le_of_ble_eq_true rfl) (by simp [Value.category, ol_rfc]) ?_
  intro p e s m args below meth c C hret hlk hin
  have h40 := hV.1
  have hx1 : ol_is ro (ad 1) (.inl 0) := hL.is 1 (by decide) (by decide) rfl
  have hx11 : ol_is ro (ad 11) (.inr (2, 40)) := hL.is 11 (by decide) (by decide) rfl
  have hxg : ol_is ro (ad g) (.inl 8) := by rcases ol_5060 hg with rfl | rfl <;> exact hL.is _ (by decide) (by decide) rfl
  have f1 : F (ad g) 0 = some (ad (g + 1)) := by rw [show g + 1 = g + 1 + 0 by omega]; exact hL.gf g 0 hg (by decide)
  have i1 : ol_is ro (ad (g + 1)) (.inr (3, 40)) := by rcases ol_5060 hg with rfl | rfl <;> exact hL.is _ (by decide) (by decide) rfl
  have f2 : F (ad g) 1 = some (ad (g + 2)) := by rw [show g + 2 = g + 1 + 1 by omega]; exact hL.gf g 1 hg (by decide)
  have i2 : ol_is ro (ad (g + 2)) (.inr (0, 40)) := by rcases ol_5060 hg with rfl | rfl <;> exact hL.is _ (by decide) (by decide) rfl
  have f3 : F (ad g) 2 = some (ad (g + 3)) := by rw [show g + 3 = g + 1 + 2 by omega]; exact hL.gf g 2 hg (by decide)
  have i3 : ol_is ro (ad (g + 3)) (.inr (0, 40)) := by rcases ol_5060 hg with rfl | rfl <;> exact hL.is _ (by decide) (by decide) rfl
  have f4 : F (ad g) 3 = some (ad (g + 4)) := by rw [show g + 4 = g + 1 + 3 by omega]; exact hL.gf g 3 hg (by decide)
  have i4 : ol_is ro (ad (g + 4)) (.inr (0, 41)) := by rcases ol_5060 hg with rfl | rfl <;> exact hL.is _ (by decide) (by decide) rfl
  have f5 : F (ad g) 4 = some (ad (g + 5)) := by rw [show g + 5 = g + 1 + 4 by omega]; exact hL.gf g 4 hg (by decide)
  have i5 : ol_is ro (ad (g + 5)) (.inr (0, 240)) := by rcases ol_5060 hg with rfl | rfl <;> exact hL.is _ (by decide) (by decide) rfl
  have f6 : F (ad g) 5 = some (ad (g + 6)) := by rw [show g + 6 = g + 1 + 5 by omega]; exact hL.gf g 5 hg (by decide)
  have i6 : ol_is ro (ad (g + 6)) (.inr (0, 240)) := by rcases ol_5060 hg with rfl | rfl <;> exact hL.is _ (by decide) (by decide) rfl
  have f7 : F (ad g) 6 = some (ad (g + 7)) := by rw [show g + 7 = g + 1 + 6 by omega]; exact hL.gf g 6 hg (by decide)
  have i7 : ol_is ro (ad (g + 7)) (.inr (1, 240)) := by rcases ol_5060 hg with rfl | rfl <;> exact hL.is _ (by decide) (by decide) rfl
  refine ol_aload_n C dX10_arc_0 rfl rfl (by first | exact ol_isq_r _ | exact ol_isq_q _ | exact ol_isq_n) ?_
  refine ol_gR (k := 2) C (by assumption) rfl rfl wd_88 (.inl rfl) dX10_arc_1 ?_
  refine ol_rf hl ?_
  refine ol_iload_n C dX10_arc_4 rfl rfl ?_
  refine ol_callV C (m_hasNode l D cA hxg t) hxg.1 hxg.2 rfl wd_510 wd_2 wd_507 wd_508 wd_509 mh_X4_hasNode (by decide) rfl (by first | exact Nat.le_of_ble_eq_true rfl | simp [ol_rfc, Value.category]) dX10_arc_5 (ol_xi ?_)
  rw [show I (ad g) 9 = nI (b.2.1 0 0) from hG.1, show ol_p (¬ t < 0 ∧ ¬ nI (b.2.1 0 0) ≤ t) = ol_p (ol_k (b.2.1 0 0) t) from rfl]
  refine ol_if_eq (tgt := 27) C dX10_arc_8 (by decide) (fun c_8 => ?_) (fun c_8 => ?_)
  · have hK : ¬ ol_k (b.2.1 0 0) t := ol_p_0.mp c_8
    refine ol_ldc (v := (-1000001)) C wd_281 dX10_arc_27 ?_
    exact ol_iret C hret hlk rfl (by decide) (by decide) dX10_arc_29 ⟨by unfold sp_ac; rw [ol_if_f (fun q => hK q.1)], rfl, rfl, rfl⟩
  · have hK : ol_k (b.2.1 0 0) t := ol_p_n.mp c_8
    obtain ⟨j, hj, rfl, hj31⟩ := ol_k_ix hK hW.1
    have w1 := hW.1
    refine ol_iload_n C dX10_arc_11 rfl rfl ?_
    refine ol_if_lt (tgt := 27) C dX10_arc_12 (by decide) (fun c_12 => ?_) (fun c_12 => ?_)
    · have hKk : ¬ ol_k (b.2.1 2 (j + 1) - b.2.1 2 j) k := fun q => q.1 c_12
      refine ol_ldc (v := (-1000001)) C wd_281 dX10_arc_27 ?_
      exact ol_iret C hret hlk rfl (by decide) (by decide) dX10_arc_29 ⟨by unfold sp_ac; rw [ol_if_f (fun q => hKk (by have := q.2; rw [nI_clamp hj31] at this; exact this))], rfl, rfl, rfl⟩
    · refine ol_iload_n C dX10_arc_15 rfl rfl ?_
      refine ol_aload_n C dX10_arc_16 rfl rfl (by first | exact ol_isq_r _ | exact ol_isq_q _ | exact ol_isq_n) ?_
      refine ol_gR (k := 2) C (by assumption) rfl rfl wd_88 (.inl rfl) dX10_arc_17 ?_
      refine ol_rf hl ?_
      refine ol_iload_n C dX10_arc_20 rfl rfl ?_
      refine ol_callV C (m_arcsOf l D cA hxg f4 i4 (n := j) (by omega)) hxg.1 hxg.2 rfl wd_522 wd_2 wd_519 wd_520 wd_521 mh_X4_arcsOf (by decide) rfl (by first | exact Nat.le_of_ble_eq_true rfl | simp [ol_rfc, Value.category]) dX10_arc_21 (ol_xi ?_)
      have em := hW.2.2.2.2.2.2.1 j hj
      have e2 : I (ad (g + 4)) (j + 1) - I (ad (g + 4)) j = nI (b.2.1 2 (j + 1) - b.2.1 2 j) := by
        rw [show I (ad (g + 4)) (j + 1) = nI (b.2.1 2 (j + 1)) from hG.2.2.2.2.2.2.1 (j + 1) (by omega), show I (ad (g + 4)) j = nI (b.2.1 2 j) from hG.2.2.2.2.2.2.1 j (by omega)]
        exact pk_sub em
      rw [e2]
      refine ol_icmp_lt (tgt := 30) C dX10_arc_24 (by decide) (fun c_24 => ?_) (fun c_24 => ?_)
      · have hKk : ol_k (b.2.1 2 (j + 1) - b.2.1 2 j) k := ⟨c_12, ol_lt_nle c_24⟩
        have w4 := hW.2.2.2.1
        have w5 := hW.fl (j := j + 1) (by omega)
        obtain ⟨kk, hkk, rfl, hkk31⟩ := ol_kix240 hKk (by omega)
        obtain ⟨a1, a2, a3⟩ := hG.2.2.2.2.2.2.2 (b.2.1 2 j + kk) (by omega)
        refine ol_aload_n C dX10_arc_30 rfl rfl (by first | exact ol_isq_r _ | exact ol_isq_q _ | exact ol_isq_n) ?_
        refine ol_gR (k := 2) C (by assumption) rfl rfl wd_88 (.inl rfl) dX10_arc_31 ?_
        refine ol_rf hl ?_
        refine ol_gR (k := 3) C (by assumption) rfl rfl wd_43 (.inl rfl) dX10_arc_34 ?_
        refine ol_rf (by assumption) ?_
        refine ol_iload_n C dX10_arc_37 rfl rfl ?_
        refine ol_lI j C (by assumption) rfl (by omega) (by decide) dX10_arc_38 ?_
        refine ol_ti (show I (ad (g + 4)) j = nI (b.2.1 2 j) from hG.2.2.2.2.2.2.1 j (by omega)) ?_
        refine ol_iload_n C dX10_arc_39 rfl rfl ?_
        refine ol_iadd C dX10_arc_40 ?_
        refine ol_ti (nI_add _ _) ?_
        refine ol_istore C dX10_arc_41 (by decide) ?_
        refine ol_iload_n C dX10_arc_43 rfl rfl ?_
        by_cases s_44_0 : v = 0
        · subst s_44_0
          refine ol_table_in (tgt := 72) C dX10_arc_44 (by decide) (by decide) rfl (by decide) ?_
          refine ol_aload_n C dX10_arc_72 rfl rfl (by first | exact ol_isq_r _ | exact ol_isq_q _ | exact ol_isq_n) ?_
          refine ol_gR (k := 2) C (by assumption) rfl rfl wd_88 (.inl rfl) dX10_arc_73 ?_
          refine ol_rf hl ?_
          refine ol_gR (k := 4) C (by assumption) rfl rfl wd_45 (.inl rfl) dX10_arc_76 ?_
          refine ol_rf (by assumption) ?_
          refine ol_iload C dX10_arc_79 rfl ?_
          refine ol_lI (b.2.1 2 j + kk) C (by assumption) rfl (by omega) (by decide) dX10_arc_81 ?_
          refine ol_ti (show I (ad (g + 5)) (b.2.1 2 j + kk) = _ from a1) ?_
          exact ol_iret C hret hlk rfl (by decide) (by decide) dX10_arc_82 ⟨by unfold sp_ac; rw [nI_clamp hj31, nI_clamp hkk31, ol_if_t ⟨hK, hKk⟩, ol_if_t rfl], rfl, rfl, rfl⟩
        by_cases s_44_1 : v = 1
        · subst s_44_1
          refine ol_table_in (tgt := 83) C dX10_arc_44 (by decide) (by decide) rfl (by decide) ?_
          refine ol_aload_n C dX10_arc_83 rfl rfl (by first | exact ol_isq_r _ | exact ol_isq_q _ | exact ol_isq_n) ?_
          refine ol_gR (k := 2) C (by assumption) rfl rfl wd_88 (.inl rfl) dX10_arc_84 ?_
          refine ol_rf hl ?_
          refine ol_gR (k := 5) C (by assumption) rfl rfl wd_47 (.inl rfl) dX10_arc_87 ?_
          refine ol_rf (by assumption) ?_
          refine ol_iload C dX10_arc_90 rfl ?_
          refine ol_lI (b.2.1 2 j + kk) C (by assumption) rfl (by omega) (by decide) dX10_arc_92 ?_
          refine ol_ti (show I (ad (g + 6)) (b.2.1 2 j + kk) = _ from a2) ?_
          exact ol_iret C hret hlk rfl (by decide) (by decide) dX10_arc_93 ⟨by unfold sp_ac; rw [nI_clamp hj31, nI_clamp hkk31, ol_if_t ⟨hK, hKk⟩, ol_if_f (by decide), ol_if_t rfl], rfl, rfl, rfl⟩
        by_cases s_44_2 : v = 2
        · subst s_44_2
          refine ol_table_in (tgt := 94) C dX10_arc_44 (by decide) (by decide) rfl (by decide) ?_
          refine ol_aload_n C dX10_arc_94 rfl rfl (by first | exact ol_isq_r _ | exact ol_isq_q _ | exact ol_isq_n) ?_
          refine ol_gR (k := 2) C (by assumption) rfl rfl wd_88 (.inl rfl) dX10_arc_95 ?_
          refine ol_rf hl ?_
          refine ol_gR (k := 6) C (by assumption) rfl rfl wd_49 (.inl rfl) dX10_arc_98 ?_
          refine ol_rf (by assumption) ?_
          refine ol_iload C dX10_arc_101 rfl ?_
          refine ol_lZ (b.2.1 2 j + kk) C (by assumption) rfl (by omega) (by decide) dX10_arc_103 ?_
          refine ol_ti (show I (ad (g + 7)) (b.2.1 2 j + kk) = _ from a3) ?_
          refine ol_callS C (m_asNumber l D cA _) wd_307 wd_1 wd_305 wd_306 mh_X10_asNumber (by decide) rfl (by first | exact Nat.le_of_ble_eq_true rfl | simp [ol_rfc, Value.category]) dX10_arc_104 (ol_xi ?_)
          exact ol_iret C hret hlk rfl (by decide) (by decide) dX10_arc_107 ⟨by unfold sp_ac; rw [nI_clamp hj31, nI_clamp hkk31, ol_if_t ⟨hK, hKk⟩, ol_if_f (by decide), ol_if_f (by decide), ol_if_t rfl], rfl, rfl, rfl⟩
        refine ol_table_out (x := v) (tgt := 108) C dX10_arc_44 (by have := lv_neT s_44_0 (a := 0) rfl; have := lv_neT s_44_1 (a := 1) rfl; have := lv_neT s_44_2 (a := 2) rfl; omega) (by decide) ?_
        refine ol_ldc (v := (-1000002)) C wd_115 dX10_arc_108 ?_
        exact ol_iret C hret hlk rfl (by decide) (by decide) dX10_arc_110 ⟨by unfold sp_ac; rw [nI_clamp hj31, nI_clamp hkk31, ol_if_t ⟨hK, hKk⟩, ol_if_f s_44_0, ol_if_f s_44_1, ol_if_f s_44_2], rfl, rfl, rfl⟩
      · have hKk : ¬ ol_k (b.2.1 2 (j + 1) - b.2.1 2 j) k := fun q => c_24 (ol_nle_lt q.2)
        refine ol_ldc (v := (-1000001)) C wd_281 dX10_arc_27 ?_
        exact ol_iret C hret hlk rfl (by decide) (by decide) dX10_arc_29 ⟨by unfold sp_ac; rw [ol_if_f (fun q => hKk (by have := q.2; rw [nI_clamp hj31] at this; exact this))], rfl, rfl, rfl⟩

set_option maxRecDepth 100000 in
set_option maxHeartbeats 4000000 in
theorem x_count (l : Launch) (D : va_G) (cA : Nat → ClassId) {ro : Nat → Nat} {I : Nat → Nat → Int32} {F : Nat → Nat → Option Nat} {ad ta pa : Nat → Nat} {n : Nat} {So : Nat → Nat} {T : Nat → Nat → Int32} {P : Nat → Nat → Option Nat} (hV : ol_V n So T P) (hL : ol_L ro F ad) (hT : ol_XT ro I F ad ta pa n So T P) {g : Nat} (hg : g ∈ [50, 60]) (hl : F (ad 1) 2 = some (ad g)) {b : ol_B} (hW : ol_GW n b) (hG : ol_XG (ol_vx I ad g) (F (ad (g + 1))) ta b (b.2.1 0 0) (b.2.1 0 0 + 1)) (t : Int32) : ol_M l D cA yX10_count cX10_count 2 (some FieldType.int) (ol_r 0 0 0) [.ref (ad 1), .int t] ro I F (ol_ei (ol_if (t = 0) (nI n) (ol_if (t = 1) (nI (b.2.1 0 0)) (ol_if (t = 2) (nI (b.2.1 0 1)) (ol_if (t = 3) (I (ad 1) 7) (-1000002))))) ro I F) := by
  refine ol_M.of (by decide +kernel) (Nat.le_of_ble_eq_true rfl) (by simp [Value.category, ol_rfc]) ?_
  intro p e s m args below meth c C hret hlk hin
  have h40 := hV.1
  have hx1 : ol_is ro (ad 1) (.inl 0) := hL.is 1 (by decide) (by decide) rfl
  have hx11 : ol_is ro (ad 11) (.inr (2, 40)) := hL.is 11 (by decide) (by decide) rfl
  have hxg : ol_is ro (ad g) (.inl 8) := by rcases ol_5060 hg with rfl | rfl <;> exact hL.is _ (by decide) (by decide) rfl
  have f1 : F (ad g) 0 = some (ad (g + 1)) := by rw [show g + 1 = g + 1 + 0 by omega]; exact hL.gf g 0 hg (by decide)
  have i1 : ol_is ro (ad (g + 1)) (.inr (3, 40)) := by rcases ol_5060 hg with rfl | rfl <;> exact hL.is _ (by decide) (by decide) rfl
  have f2 : F (ad g) 1 = some (ad (g + 2)) := by rw [show g + 2 = g + 1 + 1 by omega]; exact hL.gf g 1 hg (by decide)
  have i2 : ol_is ro (ad (g + 2)) (.inr (0, 40)) := by rcases ol_5060 hg with rfl | rfl <;> exact hL.is _ (by decide) (by decide) rfl
  have f3 : F (ad g) 2 = some (ad (g + 3)) := by rw [show g + 3 = g + 1 + 2 by omega]; exact hL.gf g 2 hg (by decide)
  have i3 : ol_is ro (ad (g + 3)) (.inr (0, 40)) := by rcases ol_5060 hg with rfl | rfl <;> exact hL.is _ (by decide) (by decide) rfl
  have f4 : F (ad g) 3 = some (ad (g + 4)) := by rw [show g + 4 = g + 1 + 3 by omega]; exact hL.gf g 3 hg (by decide)
  have i4 : ol_is ro (ad (g + 4)) (.inr (0, 41)) := by rcases ol_5060 hg with rfl | rfl <;> exact hL.is _ (by decide) (by decide) rfl
  have f5 : F (ad g) 4 = some (ad (g + 5)) := by rw [show g + 5 = g + 1 + 4 by omega]; exact hL.gf g 4 hg (by decide)
  have i5 : ol_is ro (ad (g + 5)) (.inr (0, 240)) := by rcases ol_5060 hg with rfl | rfl <;> exact hL.is _ (by decide) (by decide) rfl
  have f6 : F (ad g) 5 = some (ad (g + 6)) := by rw [show g + 6 = g + 1 + 5 by omega]; exact hL.gf g 5 hg (by decide)
  have i6 : ol_is ro (ad (g + 6)) (.inr (0, 240)) := by rcases ol_5060 hg with rfl | rfl <;> exact hL.is _ (by decide) (by decide) rfl
  have f7 : F (ad g) 6 = some (ad (g + 7)) := by rw [show g + 7 = g + 1 + 6 by omega]; exact hL.gf g 6 hg (by decide)
  have i7 : ol_is ro (ad (g + 7)) (.inr (1, 240)) := by rcases ol_5060 hg with rfl | rfl <;> exact hL.is _ (by decide) (by decide) rfl
  refine ol_iload_n C dX10_count_0 rfl rfl ?_
  by_cases s_1_0 : t = 0
  · subst s_1_0
    refine ol_table_in (tgt := 32) C dX10_count_1 (by decide) (by decide) rfl (by decide) ?_
    refine ol_aload_n C dX10_count_32 rfl rfl (by first | exact ol_isq_r _ | exact ol_isq_q _ | exact ol_isq_n) ?_
    refine ol_gI (k := 1) C (by assumption) rfl rfl wd_87 (.inl rfl) dX10_count_33 ?_
    refine ol_ti hT.1 ?_
    exact ol_iret C hret hlk rfl (by decide) (by decide) dX10_count_36 ⟨by rw [ol_if_t rfl], rfl, rfl, rfl⟩
  by_cases s_1_1 : t = 1
  · subst s_1_1
    refine ol_table_in (tgt := 37) C dX10_count_1 (by decide) (by decide) rfl (by decide) ?_
    refine ol_aload_n C dX10_count_37 rfl rfl (by first | exact ol_isq_r _ | exact ol_isq_q _ | exact ol_isq_n) ?_
    refine ol_gR (k := 2) C (by assumption) rfl rfl wd_88 (.inl rfl) dX10_count_38 ?_
    refine ol_rf hl ?_
    refine ol_gI (k := 9) C (by assumption) rfl rfl wd_53 (.inl rfl) dX10_count_41 ?_
    refine ol_ti (show I (ad g) 9 = nI (b.2.1 0 0) from hG.1) ?_
    exact ol_iret C hret hlk rfl (by decide) (by decide) dX10_count_44 ⟨by rw [ol_if_f (by decide), ol_if_t rfl], rfl, rfl, rfl⟩
  by_cases s_1_2 : t = 2
  · subst s_1_2
    refine ol_table_in (tgt := 45) C dX10_count_1 (by decide) (by decide) rfl (by decide) ?_
    refine ol_aload_n C dX10_count_45 rfl rfl (by first | exact ol_isq_r _ | exact ol_isq_q _ | exact ol_isq_n) ?_
    refine ol_gR (k := 2) C (by assumption) rfl rfl wd_88 (.inl rfl) dX10_count_46 ?_
    refine ol_rf hl ?_
    refine ol_gI (k := 10) C (by assumption) rfl rfl wd_55 (.inl rfl) dX10_count_49 ?_
    refine ol_ti (show I (ad g) 10 = nI (b.2.1 0 1) from hG.2.1) ?_
    exact ol_iret C hret hlk rfl (by decide) (by decide) dX10_count_52 ⟨by rw [ol_if_f (by decide), ol_if_f (by decide), ol_if_t rfl], rfl, rfl, rfl⟩
  by_cases s_1_3 : t = 3
  · subst s_1_3
    refine ol_table_in (tgt := 53) C dX10_count_1 (by decide) (by decide) rfl (by decide) ?_
    refine ol_aload_n C dX10_count_53 rfl rfl (by first | exact ol_isq_r _ | exact ol_isq_q _ | exact ol_isq_n) ?_
    refine ol_gI (k := 7) C (by assumption) rfl rfl wd_93 (.inl rfl) dX10_count_54 ?_
    exact ol_iret C hret hlk rfl (by decide) (by decide) dX10_count_57 ⟨by rw [ol_if_f (by decide), ol_if_f (by decide), ol_if_f (by decide), ol_if_t rfl], rfl, rfl, rfl⟩
  refine ol_table_out (x := t) (tgt := 58) C dX10_count_1 (by have := lv_neT s_1_0 (a := 0) rfl; have := lv_neT s_1_1 (a := 1) rfl; have := lv_neT s_1_2 (a := 2) rfl; have := lv_neT s_1_3 (a := 3) rfl; omega) (by decide) ?_
  refine ol_ldc (v := (-1000002)) C wd_115 dX10_count_58 ?_
  exact ol_iret C hret hlk rfl (by decide) (by decide) dX10_count_60 ⟨by rw [ol_if_f s_1_0, ol_if_f s_1_1, ol_if_f s_1_2, ol_if_f s_1_3], rfl, rfl, rfl⟩

/-- what makeEmpty leaves -/
def ol_me (I : Nat → Nat → Int32) (ad : Nat → Nat) (g : Nat) : Nat → Nat → Int32 := ol_u2 (ol_u2 (ol_u2 (va_up I (ad (g + 2)) (ol_fi (I (ad (g + 2))) 40 (-1000009))) (ad g) 9 0) (ad g) 10 0) (ad g) 11 0

set_option maxRecDepth 100000 in
set_option maxHeartbeats 4000000 in
theorem x_clear (l : Launch) (D : va_G) (cA : Nat → ClassId) {ro : Nat → Nat} {I : Nat → Nat → Int32} {F : Nat → Nat → Option Nat} {ad ta pa : Nat → Nat} {n : Nat} {So : Nat → Nat} {T : Nat → Nat → Int32} {P : Nat → Nat → Option Nat} (hV : ol_V n So T P) (hL : ol_L ro F ad) (hT : ol_XT ro I F ad ta pa n So T P) {g : Nat} (hg : g ∈ [50, 60]) (hl : F (ad 1) 2 = some (ad g)) : ol_M l D cA yX10_clear cX10_clear 2 (some FieldType.int) (ol_r 2 0 0) [.ref (ad 1)] ro I F (ol_ei (nI n) ro (ol_u2 (ol_xr (ol_me (ol_u2 I (ad 1) 1 0) ad g) ad (-1000009) (-1000009) 0) (ad 1) 7 0) F) := by
  refine ol_M.of (by decide +kernel) (Nat.le_of_ble_eq_true rfl) (by simp [Value.category, ol_rfc]) ?_
  intro p e s m args below meth c C hret hlk hin
  have h40 := hV.1
  have hx1 : ol_is ro (ad 1) (.inl 0) := hL.is 1 (by decide) (by decide) rfl
  have hx11 : ol_is ro (ad 11) (.inr (2, 40)) := hL.is 11 (by decide) (by decide) rfl
  have hxg : ol_is ro (ad g) (.inl 8) := by rcases ol_5060 hg with rfl | rfl <;> exact hL.is _ (by decide) (by decide) rfl
  refine ol_aload_n C dX10_clear_0 rfl rfl (by first | exact ol_isq_r _ | exact ol_isq_q _ | exact ol_isq_n) ?_
  refine ol_gI (k := 1) C (by assumption) rfl rfl wd_87 (.inl rfl) dX10_clear_1 ?_
  refine ol_ti hT.1 ?_
  refine ol_istore_n C dX10_clear_4 rfl (by decide) ?_
  refine ol_aload_n C dX10_clear_5 rfl rfl (by first | exact ol_isq_r _ | exact ol_isq_q _ | exact ol_isq_n) ?_
  refine ol_iconst (v := 0) C dX10_clear_6 (by decide) ?_
  refine ol_pI (k := 1) C (by assumption) rfl rfl wd_87 (.inl rfl) rfl rfl dX10_clear_7 ?_
  refine ol_aload_n C dX10_clear_10 rfl rfl (by first | exact ol_isq_r _ | exact ol_isq_q _ | exact ol_isq_n) ?_
  refine ol_gR (k := 2) C (by assumption) rfl rfl wd_88 (.inl rfl) dX10_clear_11 ?_
  refine ol_rf hl ?_
  refine ol_callV C (g_makeEmpty l D cA hg hL) hxg.1 hxg.2 rfl wd_340 wd_2 wd_337 wd_338 wd_339 mh_X4_makeEmpty (by decide) rfl (by first | exact Nat.le_of_ble_eq_true rfl | simp [ol_rfc, Value.category]) dX10_clear_14 (ol_xv ?_)
  refine ol_aload_n C dX10_clear_17 rfl rfl (by first | exact ol_isq_r _ | exact ol_isq_q _ | exact ol_isq_n) ?_
  refine ol_ldc (v := (-1000009)) C wd_85 dX10_clear_18 ?_
  refine ol_ldc (v := (-1000009)) C wd_85 dX10_clear_20 ?_
  refine ol_iconst (v := 0) C dX10_clear_22 (by decide) ?_
  refine ol_callV C (m_endLoad l D cA hx1 (-1000009) (-1000009) 0) hx1.1 hx1.2 rfl wd_332 wd_1 wd_329 wd_331 wq_3 mh_X10_endLoad (by decide) rfl (by first | exact Nat.le_of_ble_eq_true rfl | simp [ol_rfc, Value.category]) dX10_clear_23 (ol_xv ?_)
  refine ol_aload_n C dX10_clear_26 rfl rfl (by first | exact ol_isq_r _ | exact ol_isq_q _ | exact ol_isq_n) ?_
  refine ol_iconst (v := 0) C dX10_clear_27 (by decide) ?_
  refine ol_pI (k := 7) C (by assumption) rfl rfl wd_93 (.inl rfl) rfl rfl dX10_clear_28 ?_
  refine ol_iload_n C dX10_clear_31 rfl rfl ?_
  exact ol_iret C hret hlk rfl (by decide) (by decide) dX10_clear_32 ⟨rfl, rfl, rfl, rfl⟩

set_option maxRecDepth 100000 in
set_option maxHeartbeats 4000000 in
theorem x_is (l : Launch) (D : va_G) (cA : Nat → ClassId) {ro : Nat → Nat} {I : Nat → Nat → Int32} {F : Nat → Nat → Option Nat} {ad ta pa : Nat → Nat} {n : Nat} {So : Nat → Nat} {T : Nat → Nat → Int32} {P : Nat → Nat → Option Nat} (hV : ol_V n So T P) (hL : ol_L ro F ad) (hT : ol_XT ro I F ad ta pa n So T P) (t f : Int32) : ol_M l D cA yX10_is cX10_is 4 (some FieldType.int) (ol_r 2 0 0) [.ref (ad 1), .int t, .int f] ro I F (ol_ei (sp_is n So t f) ro I F) := by
  refine ol_M.of (by decide +kernel) (Nat.le_of_ble_eq_true rfl) (by simp [Value.category, ol_rfc]) ?_
  intro p e s m args below meth c C hret hlk hin
  have h40 := hV.1
  have hx1 : ol_is ro (ad 1) (.inl 0) := hL.is 1 (by decide) (by decide) rfl
  have hx11 : ol_is ro (ad 11) (.inr (2, 40)) := hL.is 11 (by decide) (by decide) rfl
  refine ol_aload_n C dX10_is_0 rfl rfl (by first | exact ol_isq_r _ | exact ol_isq_q _ | exact ol_isq_n) ?_
  refine ol_iload_n C dX10_is_1 rfl rfl ?_
  refine ol_callV C (m_known l D cA hx1 hL.2.1 hx11 t hT.1 h40) hx1.1 hx1.2 rfl wd_276 wd_1 wd_273 wd_275 wq_0 mh_X10_known (by decide) rfl (by first | exact Nat.le_of_ble_eq_true rfl | simp [ol_rfc, Value.category]) dX10_is_2 (ol_xq ?_)
  rw [show ol_if (¬ t < 0 ∧ ¬ I (ad 1) 1 ≤ t) (F (ad 11) t.toNatClampNeg) none = (ol_d n t).map ta from ol_kd hT h40]
  refine ol_astore_n C dX10_is_5 rfl (by decide) (by first | exact ol_isq_r _ | exact ol_isq_q _ | exact ol_isq_n) ?_
  refine ol_aload_n C dX10_is_6 rfl rfl (by first | exact ol_isq_r _ | exact ol_isq_q _ | exact ol_isq_n) ?_
  refine ol_ifnonnull (tgt := 13) C dX10_is_7 (by decide) (fun a_7 c_7 => ?_) (fun c_7 => ?_)
  · have hK := ol_kd_t c_7
    obtain ⟨j, hj, rfl, hj31⟩ := ol_k_ix hK h40
    rw [ol_d_j hK hj31] at c_7
    obtain rfl := Option.some.inj c_7
    have c_7b : (ol_d n (nI j)).map ta = some (ta j) := by rw [ol_d_j hK hj31]; rfl
    have hxj := (hT.2.1 j hj).2
    have htj := hxj.th (hV.2 j hj).1
    refine ol_iload_n C dX10_is_13 rfl rfl ?_
    by_cases s_14_0 : f = 0
    · subst s_14_0
      refine ol_table_in (tgt := 40) C dX10_is_14 (by decide) (by decide) rfl (by decide) ?_
      refine ol_aload_n C dX10_is_40 rfl rfl (by first | exact ol_isq_r _ | exact ol_isq_q _ | exact ol_isq_n) ?_
      refine ol_rf c_7b ?_
      refine ol_in_Node C htj wd_327 dX10_is_41 ?_
      refine ol_callS C (m_asNumber l D cA _) wd_307 wd_1 wd_305 wd_306 mh_X10_asNumber (by decide) rfl (by first | exact Nat.le_of_ble_eq_true rfl | simp [ol_rfc, Value.category]) dX10_is_44 (ol_xi ?_)
      exact ol_iret C hret hlk rfl (by decide) (by decide) dX10_is_47 ⟨by unfold sp_is; rw [ol_if_t hK, nI_clamp hj31, ol_if_t rfl, ol_pp, hxj.1]; exact congrArg (fun z => some (Value.int z)) (ol_p_c (by omega)), rfl, rfl, rfl⟩
    by_cases s_14_1 : f = 1
    · subst s_14_1
      refine ol_table_in (tgt := 48) C dX10_is_14 (by decide) (by decide) rfl (by decide) ?_
      refine ol_aload_n C dX10_is_48 rfl rfl (by first | exact ol_isq_r _ | exact ol_isq_q _ | exact ol_isq_n) ?_
      refine ol_rf c_7b ?_
      refine ol_in_City C htj wd_120 dX10_is_49 ?_
      refine ol_callS C (m_asNumber l D cA _) wd_307 wd_1 wd_305 wd_306 mh_X10_asNumber (by decide) rfl (by first | exact Nat.le_of_ble_eq_true rfl | simp [ol_rfc, Value.category]) dX10_is_52 (ol_xi ?_)
      exact ol_iret C hret hlk rfl (by decide) (by decide) dX10_is_55 ⟨by unfold sp_is; rw [ol_if_t hK, nI_clamp hj31, ol_if_f (by decide), ol_if_t rfl, ol_pp, hxj.1]; exact congrArg (fun z => some (Value.int z)) (ol_p_c (by omega)), rfl, rfl, rfl⟩
    by_cases s_14_2 : f = 2
    · subst s_14_2
      refine ol_table_in (tgt := 56) C dX10_is_14 (by decide) (by decide) rfl (by decide) ?_
      refine ol_aload_n C dX10_is_56 rfl rfl (by first | exact ol_isq_r _ | exact ol_isq_q _ | exact ol_isq_n) ?_
      refine ol_rf c_7b ?_
      refine ol_in_Bridge C htj wd_185 dX10_is_57 ?_
      refine ol_callS C (m_asNumber l D cA _) wd_307 wd_1 wd_305 wd_306 mh_X10_asNumber (by decide) rfl (by first | exact Nat.le_of_ble_eq_true rfl | simp [ol_rfc, Value.category]) dX10_is_60 (ol_xi ?_)
      exact ol_iret C hret hlk rfl (by decide) (by decide) dX10_is_63 ⟨by unfold sp_is; rw [ol_if_t hK, nI_clamp hj31, ol_if_f (by decide), ol_if_f (by decide), ol_if_t rfl, ol_pp, hxj.1]; exact congrArg (fun z => some (Value.int z)) (ol_p_c (by omega)), rfl, rfl, rfl⟩
    refine ol_table_out (x := f) (tgt := 64) C dX10_is_14 (by have := lv_neT s_14_0 (a := 0) rfl; have := lv_neT s_14_1 (a := 1) rfl; have := lv_neT s_14_2 (a := 2) rfl; omega) (by decide) ?_
    refine ol_ldc (v := (-1000002)) C wd_115 dX10_is_64 ?_
    exact ol_iret C hret hlk rfl (by decide) (by decide) dX10_is_66 ⟨by unfold sp_is; rw [ol_if_t hK, nI_clamp hj31, ol_if_f s_14_0, ol_if_f s_14_1, ol_if_f s_14_2], rfl, rfl, rfl⟩
  · have hK := ol_kd_f c_7
    refine ol_ldc (v := (-1000001)) C wd_281 dX10_is_10 ?_
    exact ol_iret C hret hlk rfl (by decide) (by decide) dX10_is_12 ⟨by unfold sp_is; rw [ol_if_f hK], rfl, rfl, rfl⟩

set_option maxRecDepth 100000 in
set_option maxHeartbeats 4000000 in
theorem x_tells (l : Launch) (D : va_G) (cA : Nat → ClassId) {ro : Nat → Nat} {I : Nat → Nat → Int32} {F : Nat → Nat → Option Nat} {ad ta pa : Nat → Nat} {n : Nat} {So : Nat → Nat} {T : Nat → Nat → Int32} {P : Nat → Nat → Option Nat} (hV : ol_V n So T P) (hL : ol_L ro F ad) (hT : ol_XT ro I F ad ta pa n So T P) (t w : Int32) : ol_M l D cA yX10_tells cX10_tells 4 (some FieldType.int) (ol_r 3 0 0) [.ref (ad 1), .int t, .int w] ro I F (ol_ei (sp_tl n So T P t w) ro I F) := by
  refine ol_M.of (by decide +kernel) (Nat.le_of_ble_eq_true rfl) (by simp [Value.category, ol_rfc]) ?_
  intro p e s m args below meth c C hret hlk hin
  have h40 := hV.1
  have hx1 : ol_is ro (ad 1) (.inl 0) := hL.is 1 (by decide) (by decide) rfl
  have hx11 : ol_is ro (ad 11) (.inr (2, 40)) := hL.is 11 (by decide) (by decide) rfl
  refine ol_aload_n C dX10_tells_0 rfl rfl (by first | exact ol_isq_r _ | exact ol_isq_q _ | exact ol_isq_n) ?_
  refine ol_iload_n C dX10_tells_1 rfl rfl ?_
  refine ol_callV C (m_known l D cA hx1 hL.2.1 hx11 t hT.1 h40) hx1.1 hx1.2 rfl wd_276 wd_1 wd_273 wd_275 wq_0 mh_X10_known (by decide) rfl (by first | exact Nat.le_of_ble_eq_true rfl | simp [ol_rfc, Value.category]) dX10_tells_2 (ol_xq ?_)
  rw [show ol_if (¬ t < 0 ∧ ¬ I (ad 1) 1 ≤ t) (F (ad 11) t.toNatClampNeg) none = (ol_d n t).map ta from ol_kd hT h40]
  refine ol_astore_n C dX10_tells_5 rfl (by decide) (by first | exact ol_isq_r _ | exact ol_isq_q _ | exact ol_isq_n) ?_
  refine ol_aload_n C dX10_tells_6 rfl rfl (by first | exact ol_isq_r _ | exact ol_isq_q _ | exact ol_isq_n) ?_
  refine ol_ifnonnull (tgt := 13) C dX10_tells_7 (by decide) (fun a_7 c_7 => ?_) (fun c_7 => ?_)
  · have hK := ol_kd_t c_7
    obtain ⟨j, hj, rfl, hj31⟩ := ol_k_ix hK h40
    rw [ol_d_j hK hj31] at c_7
    obtain rfl := Option.some.inj c_7
    have c_7b : (ol_d n (nI j)).map ta = some (ta j) := by rw [ol_d_j hK hj31]; rfl
    have hxj := (hT.2.1 j hj).2
    have htj := hxj.th (hV.2 j hj).1
    have k30 : ol_k 3 0 := ol_k_nI (j := 0) (by decide) (by decide)
    have k31 : ol_k 3 1 := ol_k_nI (j := 1) (by decide) (by decide)
    have k32 : ol_k 3 2 := ol_k_nI (j := 2) (by decide) (by decide)
    by_cases hs : So j = 2
    · refine ol_iload_n C dX10_tells_13 rfl rfl ?_
      by_cases s_14_0 : w = 0
      · subst s_14_0
        refine ol_table_in (tgt := 40) C dX10_tells_14 (by decide) (by decide) rfl (by decide) ?_
        refine ol_aload_n C dX10_tells_40 rfl rfl (by first | exact ol_isq_r _ | exact ol_isq_q _ | exact ol_isq_n) ?_
        refine ol_rf c_7b ?_
        refine dvb_toldKey C hT hV hj hs wd_547 (by decide) (by simp [Value.category]) dX10_tells_41 ?_
        refine ol_aload_n C dX10_tells_44 rfl rfl (by first | exact ol_isq_r _ | exact ol_isq_q _ | exact ol_isq_n) ?_
        refine ol_rf c_7b ?_
        refine dvb_keyCause C hT hV hj hs wd_548 (by decide) (by simp [Value.category]) dX10_tells_45 ?_
        refine ol_callS C (m_toldOrFailed l D cA _ _) wd_551 wd_1 wd_549 wd_550 mh_X10_toldOrFailed (by decide) rfl (by first | exact Nat.le_of_ble_eq_true rfl | simp [ol_rfc, Value.category]) dX10_tells_48 (ol_xi ?_)
        exact ol_iret C hret hlk rfl (by decide) (by decide) dX10_tells_51 ⟨by unfold sp_tl; rw [ol_if_t hK, nI_clamp hj31, ol_if_t k30, ol_if_t rfl], rfl, rfl, rfl⟩
      by_cases s_14_1 : w = 1
      · subst s_14_1
        refine ol_table_in (tgt := 52) C dX10_tells_14 (by decide) (by decide) rfl (by decide) ?_
        refine ol_aload_n C dX10_tells_52 rfl rfl (by first | exact ol_isq_r _ | exact ol_isq_q _ | exact ol_isq_n) ?_
        refine ol_rf c_7b ?_
        refine dvb_toldValue C hT hV hj hs wd_552 (by decide) (by simp [Value.category]) dX10_tells_53 ?_
        refine ol_aload_n C dX10_tells_56 rfl rfl (by first | exact ol_isq_r _ | exact ol_isq_q _ | exact ol_isq_n) ?_
        refine ol_rf c_7b ?_
        refine dvb_valueCause C hT hV hj hs wd_553 (by decide) (by simp [Value.category]) dX10_tells_57 ?_
        refine ol_callS C (m_toldOrFailed l D cA _ _) wd_551 wd_1 wd_549 wd_550 mh_X10_toldOrFailed (by decide) rfl (by first | exact Nat.le_of_ble_eq_true rfl | simp [ol_rfc, Value.category]) dX10_tells_60 (ol_xi ?_)
        exact ol_iret C hret hlk rfl (by decide) (by decide) dX10_tells_63 ⟨by unfold sp_tl; rw [ol_if_t hK, nI_clamp hj31, ol_if_t k31, ol_if_f (show ¬ (1 : Int32) = 0 by decide), ol_if_t (show (1 : Int32) = 1 from rfl)], rfl, rfl, rfl⟩
      by_cases s_14_2 : w = 2
      · subst s_14_2
        refine ol_table_in (tgt := 64) C dX10_tells_14 (by decide) (by decide) rfl (by decide) ?_
        refine ol_aload_n C dX10_tells_64 rfl rfl (by first | exact ol_isq_r _ | exact ol_isq_q _ | exact ol_isq_n) ?_
        refine ol_rf c_7b ?_
        refine dvb_linkCount C hT hV hj hs wd_554 (by decide) (by simp [Value.category]) dX10_tells_65 ?_
        refine ol_aload_n C dX10_tells_68 rfl rfl (by first | exact ol_isq_r _ | exact ol_isq_q _ | exact ol_isq_n) ?_
        refine ol_rf c_7b ?_
        refine dvb_linksCause C hT hV hj hs wd_557 (by decide) (by simp [Value.category]) dX10_tells_69 ?_
        refine ol_callS C (m_toldOrFailed l D cA _ _) wd_551 wd_1 wd_549 wd_550 mh_X10_toldOrFailed (by decide) rfl (by first | exact Nat.le_of_ble_eq_true rfl | simp [ol_rfc, Value.category]) dX10_tells_72 (ol_xi ?_)
        exact ol_iret C hret hlk rfl (by decide) (by decide) dX10_tells_75 ⟨by unfold sp_tl; rw [ol_if_t hK, nI_clamp hj31, ol_if_t k32, ol_if_f (show ¬ (2 : Int32) = 0 by decide), ol_if_f (show ¬ (2 : Int32) = 1 by decide), ol_if_t hs, ol_if_t (show (0 : Int32) = 0 from rfl)], rfl, rfl, rfl⟩
      refine ol_table_out (x := w) (tgt := 76) C dX10_tells_14 (by have := lv_neT s_14_0 (a := 0) rfl; have := lv_neT s_14_1 (a := 1) rfl; have := lv_neT s_14_2 (a := 2) rfl; omega) (by decide) ?_
      refine ol_ldc (v := (-1000002)) C wd_115 dX10_tells_76 ?_
      exact ol_iret C hret hlk rfl (by decide) (by decide) dX10_tells_78 ⟨by unfold sp_tl; rw [ol_if_t hK, nI_clamp hj31, ol_if_f (fun q => by rcases ol_k3_012 q with q | q | q; exact s_14_0 q; exact s_14_1 q; exact s_14_2 q)], rfl, rfl, rfl⟩
    · refine ol_iload_n C dX10_tells_13 rfl rfl ?_
      by_cases s_14_0 : w = 0
      · subst s_14_0
        refine ol_table_in (tgt := 40) C dX10_tells_14 (by decide) (by decide) rfl (by decide) ?_
        refine ol_aload_n C dX10_tells_40 rfl rfl (by first | exact ol_isq_r _ | exact ol_isq_q _ | exact ol_isq_n) ?_
        refine ol_rf c_7b ?_
        refine dv_toldKey_Thing C hT hV hj hs wd_547 (by decide) (by simp [Value.category]) dX10_tells_41 ?_
        refine ol_aload_n C dX10_tells_44 rfl rfl (by first | exact ol_isq_r _ | exact ol_isq_q _ | exact ol_isq_n) ?_
        refine ol_rf c_7b ?_
        refine dv_keyCause_Thing C hT hV hj hs wd_548 (by decide) (by simp [Value.category]) dX10_tells_45 ?_
        refine ol_callS C (m_toldOrFailed l D cA _ _) wd_551 wd_1 wd_549 wd_550 mh_X10_toldOrFailed (by decide) rfl (by first | exact Nat.le_of_ble_eq_true rfl | simp [ol_rfc, Value.category]) dX10_tells_48 (ol_xi ?_)
        exact ol_iret C hret hlk rfl (by decide) (by decide) dX10_tells_51 ⟨by unfold sp_tl; rw [ol_if_t hK, nI_clamp hj31, ol_if_t k30, ol_if_t rfl], rfl, rfl, rfl⟩
      by_cases s_14_1 : w = 1
      · subst s_14_1
        refine ol_table_in (tgt := 52) C dX10_tells_14 (by decide) (by decide) rfl (by decide) ?_
        refine ol_aload_n C dX10_tells_52 rfl rfl (by first | exact ol_isq_r _ | exact ol_isq_q _ | exact ol_isq_n) ?_
        refine ol_rf c_7b ?_
        refine dv_toldValue_Thing C hT hV hj hs wd_552 (by decide) (by simp [Value.category]) dX10_tells_53 ?_
        refine ol_aload_n C dX10_tells_56 rfl rfl (by first | exact ol_isq_r _ | exact ol_isq_q _ | exact ol_isq_n) ?_
        refine ol_rf c_7b ?_
        refine dv_valueCause_Thing C hT hV hj hs wd_553 (by decide) (by simp [Value.category]) dX10_tells_57 ?_
        refine ol_callS C (m_toldOrFailed l D cA _ _) wd_551 wd_1 wd_549 wd_550 mh_X10_toldOrFailed (by decide) rfl (by first | exact Nat.le_of_ble_eq_true rfl | simp [ol_rfc, Value.category]) dX10_tells_60 (ol_xi ?_)
        exact ol_iret C hret hlk rfl (by decide) (by decide) dX10_tells_63 ⟨by unfold sp_tl; rw [ol_if_t hK, nI_clamp hj31, ol_if_t k31, ol_if_f (show ¬ (1 : Int32) = 0 by decide), ol_if_t (show (1 : Int32) = 1 from rfl)], rfl, rfl, rfl⟩
      by_cases s_14_2 : w = 2
      · subst s_14_2
        refine ol_table_in (tgt := 64) C dX10_tells_14 (by decide) (by decide) rfl (by decide) ?_
        refine ol_aload_n C dX10_tells_64 rfl rfl (by first | exact ol_isq_r _ | exact ol_isq_q _ | exact ol_isq_n) ?_
        refine ol_rf c_7b ?_
        refine dv_linkCount_Thing C hT hV hj hs wd_554 (by decide) (by simp [Value.category]) dX10_tells_65 ?_
        refine ol_aload_n C dX10_tells_68 rfl rfl (by first | exact ol_isq_r _ | exact ol_isq_q _ | exact ol_isq_n) ?_
        refine ol_rf c_7b ?_
        refine dv_linksCause_Thing C hT hV hj hs wd_557 (by decide) (by simp [Value.category]) dX10_tells_69 ?_
        refine ol_callS C (m_toldOrFailed l D cA _ _) wd_551 wd_1 wd_549 wd_550 mh_X10_toldOrFailed (by decide) rfl (by first | exact Nat.le_of_ble_eq_true rfl | simp [ol_rfc, Value.category]) dX10_tells_72 (ol_xi ?_)
        exact ol_iret C hret hlk rfl (by decide) (by decide) dX10_tells_75 ⟨by unfold sp_tl; rw [ol_if_t hK, nI_clamp hj31, ol_if_t k32, ol_if_f (show ¬ (2 : Int32) = 0 by decide), ol_if_f (show ¬ (2 : Int32) = 1 by decide), ol_if_f hs], rfl, rfl, rfl⟩
      refine ol_table_out (x := w) (tgt := 76) C dX10_tells_14 (by have := lv_neT s_14_0 (a := 0) rfl; have := lv_neT s_14_1 (a := 1) rfl; have := lv_neT s_14_2 (a := 2) rfl; omega) (by decide) ?_
      refine ol_ldc (v := (-1000002)) C wd_115 dX10_tells_76 ?_
      exact ol_iret C hret hlk rfl (by decide) (by decide) dX10_tells_78 ⟨by unfold sp_tl; rw [ol_if_t hK, nI_clamp hj31, ol_if_f (fun q => by rcases ol_k3_012 q with q | q | q; exact s_14_0 q; exact s_14_1 q; exact s_14_2 q)], rfl, rfl, rfl⟩
  · have hK := ol_kd_f c_7
    refine ol_ldc (v := (-1000001)) C wd_281 dX10_tells_10 ?_
    exact ol_iret C hret hlk rfl (by decide) (by decide) dX10_tells_12 ⟨by unfold sp_tl; rw [ol_if_f hK], rfl, rfl, rfl⟩
