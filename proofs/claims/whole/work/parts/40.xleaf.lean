section OLIN
variable {p : Program} {l : Launch} {e : Env} {R : Room} {s : State} {m : MethodId} {args : Array Value} {below : List Frame} {meth : Method} {c : Code} {D : va_G} {cA : Nat → ClassId} {A : Nat → Prop} {Q : State → Prop} {nL : Nat} {ro : Nat → Nat} {I : Nat → Nat → Int32} {F : Nat → Nat → Option Nat} {cells slots pc : Nat} {lv : List (Option Value)} {rest : List Value} {cc : ByteArray} {own : String}
theorem ol_in_Bridge {a index : Nat} (C : ol_Cx p s m args c cc nL own D cA A) (ht : ol_th ro a) (hcl : Cond.classLink own index "ObjectLoads$Bridge" ∈ ol_all) (hdg : decode cc pc = .ok (.instanceof index, 3)) (kk : ol_W p l e R s m args below meth c D cA A Q nL ro I F cells slots (pc + 3) lv (.int (ol_p (ro a = 4)) :: rest)) : ol_W p l e R s m args below meth c D cA A Q nL ro I F cells slots pc lv (.ref a :: rest) := by
  have h0 : ro a ≠ 0 := by have := ht.1; omega
  have h3 : ro a = 2 ∨ ro a = 3 ∨ ro a = 4 ∨ ro a = 5 ∨ ro a = 6 ∨ ro a = 7 ∨ ro a = 8 := by have := ht.1; have := ht.2; omega
  rcases h3 with h | h | h | h | h | h | h
  · rw [show ol_p (ro a = 4) = 0 from ol_p_f (by omega)] at kk
    exact ol_instNo (ci := 1) C h0 (by rw [h]; rfl) rfl hcl (by decide) hdg kk
  · rw [show ol_p (ro a = 4) = 0 from ol_p_f (by omega)] at kk
    exact ol_instNo (ci := 2) C h0 (by rw [h]; rfl) rfl hcl (by decide) hdg kk
  · rw [show ol_p (ro a = 4) = 1 from ol_p_t (by omega)] at kk
    exact ol_instY (ci := 3) C h0 (by rw [h]; rfl) rfl hcl (by decide) hdg kk
  · rw [show ol_p (ro a = 4) = 0 from ol_p_f (by omega)] at kk
    exact ol_instNo (ci := 4) C h0 (by rw [h]; rfl) rfl hcl (by decide) hdg kk
  · rw [show ol_p (ro a = 4) = 0 from ol_p_f (by omega)] at kk
    exact ol_instNo (ci := 5) C h0 (by rw [h]; rfl) rfl hcl (by decide) hdg kk
  · rw [show ol_p (ro a = 4) = 0 from ol_p_f (by omega)] at kk
    exact ol_instNo (ci := 6) C h0 (by rw [h]; rfl) rfl hcl (by decide) hdg kk
  · rw [show ol_p (ro a = 4) = 0 from ol_p_f (by omega)] at kk
    exact ol_instNo (ci := 7) C h0 (by rw [h]; rfl) rfl hcl (by decide) hdg kk
theorem ol_inq_Bridge {q : Option Nat} {index : Nat} (C : ol_Cx p s m args c cc nL own D cA A) (ht : ∀ a, q = some a → ol_th ro a) (hcl : Cond.classLink own index "ObjectLoads$Bridge" ∈ ol_all) (hdg : decode cc pc = .ok (.instanceof index, 3)) (kk : ol_W p l e R s m args below meth c D cA A Q nL ro I F cells slots (pc + 3) lv (.int (ol_p (∃ a, q = some a ∧ ro a = 4)) :: rest)) : ol_W p l e R s m args below meth c D cA A Q nL ro I F cells slots pc lv (va_rf q :: rest) := by
  cases q with
  | none =>
    rw [show ol_p (∃ a, (none : Option Nat) = some a ∧ ro a = 4) = 0 from ol_p_f (by rintro ⟨a, h, -⟩; cases h)] at kk
    exact ol_instN C hdg kk
  | some a =>
    rw [show ol_p (∃ b, some a = some b ∧ ro b = 4) = ol_p (ro a = 4) from ol_p_c ⟨by rintro ⟨b, h, h2⟩; cases h; exact h2, fun h => ⟨a, rfl, h⟩⟩] at kk
    exact ol_in_Bridge C (ht a rfl) hcl hdg kk
theorem ol_in_Node {a index : Nat} (C : ol_Cx p s m args c cc nL own D cA A) (ht : ol_th ro a) (hcl : Cond.classLink own index "ObjectLoads$Node" ∈ ol_all) (hdg : decode cc pc = .ok (.instanceof index, 3)) (kk : ol_W p l e R s m args below meth c D cA A Q nL ro I F cells slots (pc + 3) lv (.int (ol_p (¬ ro a = 4)) :: rest)) : ol_W p l e R s m args below meth c D cA A Q nL ro I F cells slots pc lv (.ref a :: rest) := by
  have h0 : ro a ≠ 0 := by have := ht.1; omega
  have h3 : ro a = 2 ∨ ro a = 3 ∨ ro a = 4 ∨ ro a = 5 ∨ ro a = 6 ∨ ro a = 7 ∨ ro a = 8 := by have := ht.1; have := ht.2; omega
  rcases h3 with h | h | h | h | h | h | h
  · rw [show ol_p (¬ ro a = 4) = 1 from ol_p_t (by omega)] at kk
    exact ol_instY (ci := 1) C h0 (by rw [h]; rfl) rfl hcl (by decide) hdg kk
  · rw [show ol_p (¬ ro a = 4) = 1 from ol_p_t (by omega)] at kk
    exact ol_instY (ci := 2) C h0 (by rw [h]; rfl) rfl hcl (by decide) hdg kk
  · rw [show ol_p (¬ ro a = 4) = 0 from ol_p_f (by omega)] at kk
    exact ol_instNo (ci := 3) C h0 (by rw [h]; rfl) rfl hcl (by decide) hdg kk
  · rw [show ol_p (¬ ro a = 4) = 1 from ol_p_t (by omega)] at kk
    exact ol_instY (ci := 4) C h0 (by rw [h]; rfl) rfl hcl (by decide) hdg kk
  · rw [show ol_p (¬ ro a = 4) = 1 from ol_p_t (by omega)] at kk
    exact ol_instY (ci := 5) C h0 (by rw [h]; rfl) rfl hcl (by decide) hdg kk
  · rw [show ol_p (¬ ro a = 4) = 1 from ol_p_t (by omega)] at kk
    exact ol_instY (ci := 6) C h0 (by rw [h]; rfl) rfl hcl (by decide) hdg kk
  · rw [show ol_p (¬ ro a = 4) = 1 from ol_p_t (by omega)] at kk
    exact ol_instY (ci := 7) C h0 (by rw [h]; rfl) rfl hcl (by decide) hdg kk
theorem ol_inq_Node {q : Option Nat} {index : Nat} (C : ol_Cx p s m args c cc nL own D cA A) (ht : ∀ a, q = some a → ol_th ro a) (hcl : Cond.classLink own index "ObjectLoads$Node" ∈ ol_all) (hdg : decode cc pc = .ok (.instanceof index, 3)) (kk : ol_W p l e R s m args below meth c D cA A Q nL ro I F cells slots (pc + 3) lv (.int (ol_p (∃ a, q = some a ∧ ¬ ro a = 4)) :: rest)) : ol_W p l e R s m args below meth c D cA A Q nL ro I F cells slots pc lv (va_rf q :: rest) := by
  cases q with
  | none =>
    rw [show ol_p (∃ a, (none : Option Nat) = some a ∧ ¬ ro a = 4) = 0 from ol_p_f (by rintro ⟨a, h, -⟩; cases h)] at kk
    exact ol_instN C hdg kk
  | some a =>
    rw [show ol_p (∃ b, some a = some b ∧ ¬ ro b = 4) = ol_p (¬ ro a = 4) from ol_p_c ⟨by rintro ⟨b, h, h2⟩; cases h; exact h2, fun h => ⟨a, rfl, h⟩⟩] at kk
    exact ol_in_Node C (ht a rfl) hcl hdg kk
theorem ol_in_City {a index : Nat} (C : ol_Cx p s m args c cc nL own D cA A) (ht : ol_th ro a) (hcl : Cond.classLink own index "ObjectLoads$City" ∈ ol_all) (hdg : decode cc pc = .ok (.instanceof index, 3)) (kk : ol_W p l e R s m args below meth c D cA A Q nL ro I F cells slots (pc + 3) lv (.int (ol_p ((ro a = 3 ∨ ro a = 6 ∨ ro a = 7))) :: rest)) : ol_W p l e R s m args below meth c D cA A Q nL ro I F cells slots pc lv (.ref a :: rest) := by
  have h0 : ro a ≠ 0 := by have := ht.1; omega
  have h3 : ro a = 2 ∨ ro a = 3 ∨ ro a = 4 ∨ ro a = 5 ∨ ro a = 6 ∨ ro a = 7 ∨ ro a = 8 := by have := ht.1; have := ht.2; omega
  rcases h3 with h | h | h | h | h | h | h
  · rw [show ol_p ((ro a = 3 ∨ ro a = 6 ∨ ro a = 7)) = 0 from ol_p_f (by omega)] at kk
    exact ol_instNo (ci := 1) C h0 (by rw [h]; rfl) rfl hcl (by decide) hdg kk
  · rw [show ol_p ((ro a = 3 ∨ ro a = 6 ∨ ro a = 7)) = 1 from ol_p_t (by omega)] at kk
    exact ol_instY (ci := 2) C h0 (by rw [h]; rfl) rfl hcl (by decide) hdg kk
  · rw [show ol_p ((ro a = 3 ∨ ro a = 6 ∨ ro a = 7)) = 0 from ol_p_f (by omega)] at kk
    exact ol_instNo (ci := 3) C h0 (by rw [h]; rfl) rfl hcl (by decide) hdg kk
  · rw [show ol_p ((ro a = 3 ∨ ro a = 6 ∨ ro a = 7)) = 0 from ol_p_f (by omega)] at kk
    exact ol_instNo (ci := 4) C h0 (by rw [h]; rfl) rfl hcl (by decide) hdg kk
  · rw [show ol_p ((ro a = 3 ∨ ro a = 6 ∨ ro a = 7)) = 1 from ol_p_t (by omega)] at kk
    exact ol_instY (ci := 5) C h0 (by rw [h]; rfl) rfl hcl (by decide) hdg kk
  · rw [show ol_p ((ro a = 3 ∨ ro a = 6 ∨ ro a = 7)) = 1 from ol_p_t (by omega)] at kk
    exact ol_instY (ci := 6) C h0 (by rw [h]; rfl) rfl hcl (by decide) hdg kk
  · rw [show ol_p ((ro a = 3 ∨ ro a = 6 ∨ ro a = 7)) = 0 from ol_p_f (by omega)] at kk
    exact ol_instNo (ci := 7) C h0 (by rw [h]; rfl) rfl hcl (by decide) hdg kk
theorem ol_inq_City {q : Option Nat} {index : Nat} (C : ol_Cx p s m args c cc nL own D cA A) (ht : ∀ a, q = some a → ol_th ro a) (hcl : Cond.classLink own index "ObjectLoads$City" ∈ ol_all) (hdg : decode cc pc = .ok (.instanceof index, 3)) (kk : ol_W p l e R s m args below meth c D cA A Q nL ro I F cells slots (pc + 3) lv (.int (ol_p (∃ a, q = some a ∧ (ro a = 3 ∨ ro a = 6 ∨ ro a = 7))) :: rest)) : ol_W p l e R s m args below meth c D cA A Q nL ro I F cells slots pc lv (va_rf q :: rest) := by
  cases q with
  | none =>
    rw [show ol_p (∃ a, (none : Option Nat) = some a ∧ (ro a = 3 ∨ ro a = 6 ∨ ro a = 7)) = 0 from ol_p_f (by rintro ⟨a, h, -⟩; cases h)] at kk
    exact ol_instN C hdg kk
  | some a =>
    rw [show ol_p (∃ b, some a = some b ∧ (ro b = 3 ∨ ro b = 6 ∨ ro b = 7)) = ol_p ((ro a = 3 ∨ ro a = 6 ∨ ro a = 7)) from ol_p_c ⟨by rintro ⟨b, h, h2⟩; cases h; exact h2, fun h => ⟨a, rfl, h⟩⟩] at kk
    exact ol_in_City C (ht a rfl) hcl hdg kk
theorem ol_in_Masked {a index : Nat} (C : ol_Cx p s m args c cc nL own D cA A) (ht : ol_th ro a) (hcl : Cond.classLink own index "ObjectLoads$Masked" ∈ ol_all) (hdg : decode cc pc = .ok (.instanceof index, 3)) (kk : ol_W p l e R s m args below meth c D cA A Q nL ro I F cells slots (pc + 3) lv (.int (ol_p (ro a = 6)) :: rest)) : ol_W p l e R s m args below meth c D cA A Q nL ro I F cells slots pc lv (.ref a :: rest) := by
  have h0 : ro a ≠ 0 := by have := ht.1; omega
  have h3 : ro a = 2 ∨ ro a = 3 ∨ ro a = 4 ∨ ro a = 5 ∨ ro a = 6 ∨ ro a = 7 ∨ ro a = 8 := by have := ht.1; have := ht.2; omega
  rcases h3 with h | h | h | h | h | h | h
  · rw [show ol_p (ro a = 6) = 0 from ol_p_f (by omega)] at kk
    exact ol_instNo (ci := 1) C h0 (by rw [h]; rfl) rfl hcl (by decide) hdg kk
  · rw [show ol_p (ro a = 6) = 0 from ol_p_f (by omega)] at kk
    exact ol_instNo (ci := 2) C h0 (by rw [h]; rfl) rfl hcl (by decide) hdg kk
  · rw [show ol_p (ro a = 6) = 0 from ol_p_f (by omega)] at kk
    exact ol_instNo (ci := 3) C h0 (by rw [h]; rfl) rfl hcl (by decide) hdg kk
  · rw [show ol_p (ro a = 6) = 0 from ol_p_f (by omega)] at kk
    exact ol_instNo (ci := 4) C h0 (by rw [h]; rfl) rfl hcl (by decide) hdg kk
  · rw [show ol_p (ro a = 6) = 1 from ol_p_t (by omega)] at kk
    exact ol_instY (ci := 5) C h0 (by rw [h]; rfl) rfl hcl (by decide) hdg kk
  · rw [show ol_p (ro a = 6) = 0 from ol_p_f (by omega)] at kk
    exact ol_instNo (ci := 6) C h0 (by rw [h]; rfl) rfl hcl (by decide) hdg kk
  · rw [show ol_p (ro a = 6) = 0 from ol_p_f (by omega)] at kk
    exact ol_instNo (ci := 7) C h0 (by rw [h]; rfl) rfl hcl (by decide) hdg kk
theorem ol_inq_Masked {q : Option Nat} {index : Nat} (C : ol_Cx p s m args c cc nL own D cA A) (ht : ∀ a, q = some a → ol_th ro a) (hcl : Cond.classLink own index "ObjectLoads$Masked" ∈ ol_all) (hdg : decode cc pc = .ok (.instanceof index, 3)) (kk : ol_W p l e R s m args below meth c D cA A Q nL ro I F cells slots (pc + 3) lv (.int (ol_p (∃ a, q = some a ∧ ro a = 6)) :: rest)) : ol_W p l e R s m args below meth c D cA A Q nL ro I F cells slots pc lv (va_rf q :: rest) := by
  cases q with
  | none =>
    rw [show ol_p (∃ a, (none : Option Nat) = some a ∧ ro a = 6) = 0 from ol_p_f (by rintro ⟨a, h, -⟩; cases h)] at kk
    exact ol_instN C hdg kk
  | some a =>
    rw [show ol_p (∃ b, some a = some b ∧ ro b = 6) = ol_p (ro a = 6) from ol_p_c ⟨by rintro ⟨b, h, h2⟩; cases h; exact h2, fun h => ⟨a, rfl, h⟩⟩] at kk
    exact ol_in_Masked C (ht a rfl) hcl hdg kk
theorem ol_ca_Bridge {a index : Nat} (C : ol_Cx p s m args c cc nL own D cA A) (ht : ol_th ro a) (hb : ro a = 4) (hcl : Cond.classLink own index "ObjectLoads$Bridge" ∈ ol_all) (hdg : decode cc pc = .ok (.checkcast index, 3)) (kk : ol_W p l e R s m args below meth c D cA A Q nL ro I F cells slots (pc + 3) lv (.ref a :: rest)) : ol_W p l e R s m args below meth c D cA A Q nL ro I F cells slots pc lv (.ref a :: rest) := by
  have h0 : ro a ≠ 0 := by have := ht.1; omega
  exact ol_cast (ci := 3) C h0 (by rw [hb]; rfl) rfl hcl (by decide) hdg kk
theorem ol_ca_Node {a index : Nat} (C : ol_Cx p s m args c cc nL own D cA A) (ht : ol_th ro a) (hb : ¬ ro a = 4) (hcl : Cond.classLink own index "ObjectLoads$Node" ∈ ol_all) (hdg : decode cc pc = .ok (.checkcast index, 3)) (kk : ol_W p l e R s m args below meth c D cA A Q nL ro I F cells slots (pc + 3) lv (.ref a :: rest)) : ol_W p l e R s m args below meth c D cA A Q nL ro I F cells slots pc lv (.ref a :: rest) := by
  have h0 : ro a ≠ 0 := by have := ht.1; omega
  have h3 : ro a = 2 ∨ ro a = 3 ∨ ro a = 5 ∨ ro a = 6 ∨ ro a = 7 ∨ ro a = 8 := by have := ht.1; have := ht.2; omega
  rcases h3 with h | h | h | h | h | h
  · exact ol_cast (ci := 1) C h0 (by rw [h]; rfl) rfl hcl (by decide) hdg kk
  · exact ol_cast (ci := 2) C h0 (by rw [h]; rfl) rfl hcl (by decide) hdg kk
  · exact ol_cast (ci := 4) C h0 (by rw [h]; rfl) rfl hcl (by decide) hdg kk
  · exact ol_cast (ci := 5) C h0 (by rw [h]; rfl) rfl hcl (by decide) hdg kk
  · exact ol_cast (ci := 6) C h0 (by rw [h]; rfl) rfl hcl (by decide) hdg kk
  · exact ol_cast (ci := 7) C h0 (by rw [h]; rfl) rfl hcl (by decide) hdg kk
end OLIN

set_option maxRecDepth 100000 in
set_option maxHeartbeats 4000000 in
theorem x_keyCause9 (l : Launch) (D : va_G) (cA : Nat → ClassId) {ro : Nat → Nat} {I : Nat → Nat → Int32} {F : Nat → Nat → Option Nat} {a : Nat} (ht : ol_th ro a) : ol_M l D cA yX9_keyCause cX9_keyCause 1 (some FieldType.int) (ol_r 0 0 0) [.ref a] ro I F (ol_ei 0 ro I F) := by
  refine ol_M.of (by decide +kernel) (Nat.le_of_ble_eq_true rfl) (by simp [Value.category, ol_rfc]) ?_
  intro p e s m args below meth c C hret hlk hin
  refine ol_iconst (v := 0) C dX9_keyCause_0 (by decide) ?_
  exact ol_iret C hret hlk rfl (by decide) (by decide) dX9_keyCause_1 ⟨rfl, rfl, rfl, rfl⟩

set_option maxRecDepth 100000 in
set_option maxHeartbeats 4000000 in
theorem x_toldKey (l : Launch) (D : va_G) (cA : Nat → ClassId) {ro : Nat → Nat} {I : Nat → Nat → Int32} {F : Nat → Nat → Option Nat} {a : Nat} (ht : ol_th ro a) : ol_M l D cA yX9_toldKey cX9_toldKey 1 (some FieldType.int) (ol_r 0 0 0) [.ref a] ro I F (ol_ei (I a 2) ro I F) := by
  refine ol_M.of (by decide +kernel) (Nat.le_of_ble_eq_true rfl) (by simp [Value.category, ol_rfc]) ?_
  intro p e s m args below meth c C hret hlk hin
  refine ol_aload_n C dX9_toldKey_0 rfl rfl (by first | exact ol_isq_r _ | exact ol_isq_q _ | exact ol_isq_n) ?_
  refine ol_tgI C (by assumption) ol_tf2 wd_146 (.inl rfl) dX9_toldKey_1 ?_
  exact ol_iret C hret hlk rfl (by decide) (by decide) dX9_toldKey_4 ⟨rfl, rfl, rfl, rfl⟩

set_option maxRecDepth 100000 in
set_option maxHeartbeats 4000000 in
theorem x_valueCause9 (l : Launch) (D : va_G) (cA : Nat → ClassId) {ro : Nat → Nat} {I : Nat → Nat → Int32} {F : Nat → Nat → Option Nat} {a : Nat} (ht : ol_th ro a) : ol_M l D cA yX9_valueCause cX9_valueCause 1 (some FieldType.int) (ol_r 0 0 0) [.ref a] ro I F (ol_ei 0 ro I F) := by
  refine ol_M.of (by decide +kernel) (Nat.le_of_ble_eq_true rfl) (by simp [Value.category, ol_rfc]) ?_
  intro p e s m args below meth c C hret hlk hin
  refine ol_iconst (v := 0) C dX9_valueCause_0 (by decide) ?_
  exact ol_iret C hret hlk rfl (by decide) (by decide) dX9_valueCause_1 ⟨rfl, rfl, rfl, rfl⟩

set_option maxRecDepth 100000 in
set_option maxHeartbeats 4000000 in
theorem x_toldValue9 (l : Launch) (D : va_G) (cA : Nat → ClassId) {ro : Nat → Nat} {I : Nat → Nat → Int32} {F : Nat → Nat → Option Nat} {a : Nat} (ht : ol_th ro a) : ol_M l D cA yX9_toldValue cX9_toldValue 1 (some FieldType.int) (ol_r 0 0 0) [.ref a] ro I F (ol_ei (I a 3) ro I F) := by
  refine ol_M.of (by decide +kernel) (Nat.le_of_ble_eq_true rfl) (by simp [Value.category, ol_rfc]) ?_
  intro p e s m args below meth c C hret hlk hin
  refine ol_aload_n C dX9_toldValue_0 rfl rfl (by first | exact ol_isq_r _ | exact ol_isq_q _ | exact ol_isq_n) ?_
  refine ol_tgI C (by assumption) ol_tf3 wd_148 (.inl rfl) dX9_toldValue_1 ?_
  exact ol_iret C hret hlk rfl (by decide) (by decide) dX9_toldValue_4 ⟨rfl, rfl, rfl, rfl⟩

set_option maxRecDepth 100000 in
set_option maxHeartbeats 4000000 in
theorem x_linksCause9 (l : Launch) (D : va_G) (cA : Nat → ClassId) {ro : Nat → Nat} {I : Nat → Nat → Int32} {F : Nat → Nat → Option Nat} {a : Nat} (ht : ol_th ro a) : ol_M l D cA yX9_linksCause cX9_linksCause 1 (some FieldType.int) (ol_r 0 0 0) [.ref a] ro I F (ol_ei 0 ro I F) := by
  refine ol_M.of (by decide +kernel) (Nat.le_of_ble_eq_true rfl) (by simp [Value.category, ol_rfc]) ?_
  intro p e s m args below meth c C hret hlk hin
  refine ol_iconst (v := 0) C dX9_linksCause_0 (by decide) ?_
  exact ol_iret C hret hlk rfl (by decide) (by decide) dX9_linksCause_1 ⟨rfl, rfl, rfl, rfl⟩

set_option maxRecDepth 100000 in
set_option maxHeartbeats 4000000 in
theorem x_keyCause3 (l : Launch) (D : va_G) (cA : Nat → ClassId) {ro : Nat → Nat} {I : Nat → Nat → Int32} {F : Nat → Nat → Option Nat} {a : Nat} (ht : ol_th ro a) : ol_M l D cA yX3_keyCause cX3_keyCause 1 (some FieldType.int) (ol_r 0 0 0) [.ref a] ro I F (ol_ei (ol_p (I a 5 = 0)) ro I F) := by
  refine ol_M.of (by decide +kernel) (Nat.le_of_ble_eq_true rfl) (by simp [Value.category, ol_rfc]) ?_
  intro p e s m args below meth c C hret hlk hin
  refine ol_aload_n C dX3_keyCause_0 rfl rfl (by first | exact ol_isq_r _ | exact ol_isq_q _ | exact ol_isq_n) ?_
  refine ol_tgI C (by assumption) ol_tf5 wd_161 (.inr wd_162) dX3_keyCause_1 ?_
  refine ol_if_eq (tgt := 11) C dX3_keyCause_4 (by decide) (fun c_4 => ?_) (fun c_4 => ?_)
  · refine ol_iconst (v := 1) C dX3_keyCause_11 (by decide) ?_
    exact ol_iret C hret hlk rfl (by decide) (by decide) dX3_keyCause_12 ⟨ol_pt c_4, rfl, rfl, rfl⟩
  · refine ol_iconst (v := 0) C dX3_keyCause_7 (by decide) ?_
    refine ol_goto (tgt := 12) C dX3_keyCause_8 (by decide) ?_
    exact ol_iret C hret hlk rfl (by decide) (by decide) dX3_keyCause_12 ⟨ol_pf c_4, rfl, rfl, rfl⟩

set_option maxRecDepth 100000 in
set_option maxHeartbeats 4000000 in
theorem x_valueCause1 (l : Launch) (D : va_G) (cA : Nat → ClassId) {ro : Nat → Nat} {I : Nat → Nat → Int32} {F : Nat → Nat → Option Nat} {a : Nat} (ht : ol_th ro a) : ol_M l D cA yX1_valueCause cX1_valueCause 1 (some FieldType.int) (ol_r 0 0 0) [.ref a] ro I F (ol_ei (ol_if (I a 3 = 0) 4 0) ro I F) := by
  refine ol_M.of (by decide +kernel) (Nat.le_of_ble_eq_true rfl) (by simp [Value.category, ol_rfc]) ?_
  intro p e s m args below meth c C hret hlk hin
  refine ol_aload_n C dX1_valueCause_0 rfl rfl (by first | exact ol_isq_r _ | exact ol_isq_q _ | exact ol_isq_n) ?_
  refine ol_tgI C (by assumption) ol_tf3 wd_149 (.inr wd_150) dX1_valueCause_1 ?_
  refine ol_if_ne (tgt := 11) C dX1_valueCause_4 (by decide) (fun c_4 => ?_) (fun c_4 => ?_)
  · refine ol_iconst (v := 0) C dX1_valueCause_11 (by decide) ?_
    exact ol_iret C hret hlk rfl (by decide) (by decide) dX1_valueCause_12 ⟨by rw [ol_if_f c_4], rfl, rfl, rfl⟩
  · refine ol_iconst (v := 4) C dX1_valueCause_7 (by decide) ?_
    refine ol_goto (tgt := 12) C dX1_valueCause_8 (by decide) ?_
    exact ol_iret C hret hlk rfl (by decide) (by decide) dX1_valueCause_12 ⟨by rw [ol_if_t c_4], rfl, rfl, rfl⟩

set_option maxRecDepth 100000 in
set_option maxHeartbeats 4000000 in
theorem x_toldValue1 (l : Launch) (D : va_G) (cA : Nat → ClassId) {ro : Nat → Nat} {I : Nat → Nat → Int32} {F : Nat → Nat → Option Nat} {a : Nat} (ht : ol_th ro a) : ol_M l D cA yX1_toldValue cX1_toldValue 1 (some FieldType.int) (ol_r 0 0 0) [.ref a] ro I F (ol_ei (ol_if (I a 3 = 0) 0 (100 / I a 3)) ro I F) := by
  refine ol_M.of (by decide +kernel) (Nat.le_of_ble_eq_true rfl) (by simp [Value.category, ol_rfc]) ?_
  intro p e s m args below meth c C hret hlk hin
  refine ol_aload_n C dX1_toldValue_0 rfl rfl (by first | exact ol_isq_r _ | exact ol_isq_q _ | exact ol_isq_n) ?_
  refine ol_tgI C (by assumption) ol_tf3 wd_149 (.inr wd_150) dX1_toldValue_1 ?_
  refine ol_if_ne (tgt := 11) C dX1_toldValue_4 (by decide) (fun c_4 => ?_) (fun c_4 => ?_)
  · refine ol_bipush (v := 100) C dX1_toldValue_11 (by decide) ?_
    refine ol_aload_n C dX1_toldValue_13 rfl rfl (by first | exact ol_isq_r _ | exact ol_isq_q _ | exact ol_isq_n) ?_
    refine ol_tgI C (by assumption) ol_tf3 wd_149 (.inr wd_150) dX1_toldValue_14 ?_
    refine ol_idiv C dX1_toldValue_17 c_4 ?_
    exact ol_iret C hret hlk rfl (by decide) (by decide) dX1_toldValue_18 ⟨by rw [ol_if_f c_4], rfl, rfl, rfl⟩
  · refine ol_iconst (v := 0) C dX1_toldValue_7 (by decide) ?_
    refine ol_goto (tgt := 18) C dX1_toldValue_8 (by decide) ?_
    exact ol_iret C hret hlk rfl (by decide) (by decide) dX1_toldValue_18 ⟨by rw [ol_if_t c_4], rfl, rfl, rfl⟩

set_option maxRecDepth 100000 in
set_option maxHeartbeats 4000000 in
theorem x_toldValue2 (l : Launch) (D : va_G) (cA : Nat → ClassId) {ro : Nat → Nat} {I : Nat → Nat → Int32} {F : Nat → Nat → Option Nat} {a : Nat} (ht : ol_th ro a) : ol_M l D cA yX2_toldValue cX2_toldValue 1 (some FieldType.int) (ol_r 0 0 0) [.ref a] ro I F (ol_ei (2 * I a 3) ro I F) := by
  refine ol_M.of (by decide +kernel) (Nat.le_of_ble_eq_true rfl) (by simp [Value.category, ol_rfc]) ?_
  intro p e s m args below meth c C hret hlk hin
  refine ol_iconst (v := 2) C dX2_toldValue_0 (by decide) ?_
  refine ol_aload_n C dX2_toldValue_1 rfl rfl (by first | exact ol_isq_r _ | exact ol_isq_q _ | exact ol_isq_n) ?_
  refine ol_tgI C (by assumption) ol_tf3 wd_153 (.inr wd_154) dX2_toldValue_2 ?_
  refine ol_imul C dX2_toldValue_5 ?_
  exact ol_iret C hret hlk rfl (by decide) (by decide) dX2_toldValue_6 ⟨rfl, rfl, rfl, rfl⟩

set_option maxRecDepth 100000 in
set_option maxHeartbeats 4000000 in
theorem x_toldValue5 (l : Launch) (D : va_G) (cA : Nat → ClassId) {ro : Nat → Nat} {I : Nat → Nat → Int32} {F : Nat → Nat → Option Nat} {a : Nat} (ht : ol_th ro a) (hr : ro a = 6) : ol_M l D cA yX5_toldValue cX5_toldValue 1 (some FieldType.int) (ol_r 1 0 0) [.ref a] ro I F (ol_ei (2 * I a 3 + 1) ro I F) := by
  refine ol_M.of (by decide +kernel) (Nat.le_of_ble_eq_true rfl) (by simp [Value.category, ol_rfc]) ?_
  intro p e s m args below meth c C hret hlk hin
  have hi : ol_is ro a (.inl 5) := ol_is_of hr (by decide) rfl
  refine ol_aload_n C dX5_toldValue_0 rfl rfl (by first | exact ol_isq_r _ | exact ol_isq_q _ | exact ol_isq_n) ?_
  refine ol_callSU C (x_toldValue2 l D cA ht) hi.1 hi.2 rfl wd_402 wd_7 wd_407 wd_808 wd_229 wd_401 mhs_X2_toldValue (by decide) rfl (by first | exact Nat.le_of_ble_eq_true rfl | simp [ol_rfc, Value.category]) dX5_toldValue_1 (ol_xi ?_)
  refine ol_iconst (v := 1) C dX5_toldValue_4 (by decide) ?_
  refine ol_iadd C dX5_toldValue_5 ?_
  exact ol_iret C hret hlk rfl (by decide) (by decide) dX5_toldValue_6 ⟨rfl, rfl, rfl, rfl⟩

set_option maxRecDepth 100000 in
set_option maxHeartbeats 4000000 in
theorem x_toldValue8 (l : Launch) (D : va_G) (cA : Nat → ClassId) {ro : Nat → Nat} {I : Nat → Nat → Int32} {F : Nat → Nat → Option Nat} {a : Nat} (ht : ol_th ro a) : ol_M l D cA yX8_toldValue cX8_toldValue 1 (some FieldType.int) (ol_r 0 0 0) [.ref a] ro I F (ol_ei (I a 3) ro I F) := by
  refine ol_M.of (by decide +kernel) (Nat.le_of_ble_eq_true rfl) (by simp [Value.category, ol_rfc]) ?_
  intro p e s m args below meth c C hret hlk hin
  refine ol_aload_n C dX8_toldValue_0 rfl rfl (by first | exact ol_isq_r _ | exact ol_isq_q _ | exact ol_isq_n) ?_
  refine ol_tgI C (by assumption) ol_tf3 wd_151 (.inr wd_152) dX8_toldValue_1 ?_
  exact ol_iret C hret hlk rfl (by decide) (by decide) dX8_toldValue_4 ⟨rfl, rfl, rfl, rfl⟩

set_option maxRecDepth 100000 in
set_option maxHeartbeats 4000000 in
theorem x_linksCause7 (l : Launch) (D : va_G) (cA : Nat → ClassId) {ro : Nat → Nat} {I : Nat → Nat → Int32} {F : Nat → Nat → Option Nat} {a : Nat} (ht : ol_th ro a) (hn : ∀ b, F a 4 = some b → ol_th ro b) : ol_M l D cA yX7_linksCause cX7_linksCause 1 (some FieldType.int) (ol_r 0 0 0) [.ref a] ro I F (ol_ei (ol_if (∃ b, F a 4 = some b ∧ ro b = 4) 3 0) ro I F) := by
  refine ol_M.of (by decide +kernel) (Nat.le_of_ble_eq_true rfl) (by simp [Value.category, ol_rfc]) ?_
  intro p e s m args below meth c C hret hlk hin
  refine ol_aload_n C dX7_linksCause_0 rfl rfl (by first | exact ol_isq_r _ | exact ol_isq_q _ | exact ol_isq_n) ?_
  refine ol_tgR C (by assumption) ol_tf4 wd_157 (.inr wd_158) dX7_linksCause_1 ?_
  refine ol_inq_Bridge C hn wd_424 dX7_linksCause_4 ?_
  refine ol_if_eq (tgt := 14) C dX7_linksCause_7 (by decide) (fun c_7 => ?_) (fun c_7 => ?_)
  · refine ol_iconst (v := 0) C dX7_linksCause_14 (by decide) ?_
    exact ol_iret C hret hlk rfl (by decide) (by decide) dX7_linksCause_15 ⟨by rw [ol_if_f (ol_p_0.mp c_7)], rfl, rfl, rfl⟩
  · refine ol_iconst (v := 3) C dX7_linksCause_10 (by decide) ?_
    refine ol_goto (tgt := 15) C dX7_linksCause_11 (by decide) ?_
    exact ol_iret C hret hlk rfl (by decide) (by decide) dX7_linksCause_15 ⟨by rw [ol_if_t (ol_p_n.mp c_7)], rfl, rfl, rfl⟩

set_option maxRecDepth 100000 in
set_option maxHeartbeats 4000000 in
theorem x_linkCount7 (l : Launch) (D : va_G) (cA : Nat → ClassId) {ro : Nat → Nat} {I : Nat → Nat → Int32} {F : Nat → Nat → Option Nat} {a : Nat} (ht : ol_th ro a) : ol_M l D cA yX7_linkCount cX7_linkCount 1 (some FieldType.int) (ol_r 0 0 0) [.ref a] ro I F (ol_ei (ol_if (F a 4 = none) 0 1) ro I F) := by
  refine ol_M.of (by decide +kernel) (Nat.le_of_ble_eq_true rfl) (by simp [Value.category, ol_rfc]) ?_
  intro p e s m args below meth c C hret hlk hin
  refine ol_aload_n C dX7_linkCount_0 rfl rfl (by first | exact ol_isq_r _ | exact ol_isq_q _ | exact ol_isq_n) ?_
  refine ol_tgR C (by assumption) ol_tf4 wd_157 (.inr wd_158) dX7_linkCount_1 ?_
  refine ol_ifnonnull (tgt := 11) C dX7_linkCount_4 (by decide) (fun a_4 c_4 => ?_) (fun c_4 => ?_)
  · refine ol_iconst (v := 1) C dX7_linkCount_11 (by decide) ?_
    exact ol_iret C hret hlk rfl (by decide) (by decide) dX7_linkCount_12 ⟨by rw [ol_if_f (by rw [c_4]; simp)], rfl, rfl, rfl⟩
  · refine ol_iconst (v := 0) C dX7_linkCount_7 (by decide) ?_
    refine ol_goto (tgt := 12) C dX7_linkCount_8 (by decide) ?_
    exact ol_iret C hret hlk rfl (by decide) (by decide) dX7_linkCount_12 ⟨by rw [ol_if_t c_4], rfl, rfl, rfl⟩

set_option maxRecDepth 100000 in
set_option maxHeartbeats 4000000 in
theorem x_link7 (l : Launch) (D : va_G) (cA : Nat → ClassId) {ro : Nat → Nat} {I : Nat → Nat → Int32} {F : Nat → Nat → Option Nat} {a : Nat} (ht : ol_th ro a) (i : Int32) : ol_M l D cA yX7_link cX7_link 2 (some (FieldType.object "ObjectLoads$Thing")) (ol_r 0 0 0) [.ref a, .int i] ro I F (ol_eq (F a 4) ro I F) := by
  refine ol_M.of (by decide +kernel) (Nat.le_of_ble_eq_true rfl) (by simp [Value.category, ol_rfc]) ?_
  intro p e s m args below meth c C hret hlk hin
  refine ol_aload_n C dX7_link_0 rfl rfl (by first | exact ol_isq_r _ | exact ol_isq_q _ | exact ol_isq_n) ?_
  refine ol_tgR C (by assumption) ol_tf4 wd_157 (.inr wd_158) dX7_link_1 ?_
  exact ol_aret C rfl hret (Or.inl ⟨_, rfl⟩) hlk (by decide) (by decide) dX7_link_4 ⟨rfl, rfl, rfl, rfl⟩

set_option maxRecDepth 100000 in
set_option maxHeartbeats 4000000 in
theorem x_linkCount0 (l : Launch) (D : va_G) (cA : Nat → ClassId) {ro : Nat → Nat} {I : Nat → Nat → Int32} {F : Nat → Nat → Option Nat} {a : Nat} (ht : ol_th ro a) : ol_M l D cA yX0_linkCount cX0_linkCount 1 (some FieldType.int) (ol_r 0 0 0) [.ref a] ro I F (ol_ei 2 ro I F) := by
  refine ol_M.of (by decide +kernel) (Nat.le_of_ble_eq_true rfl) (by simp [Value.category, ol_rfc]) ?_
  intro p e s m args below meth c C hret hlk hin
  refine ol_iconst (v := 2) C dX0_linkCount_0 (by decide) ?_
  exact ol_iret C hret hlk rfl (by decide) (by decide) dX0_linkCount_1 ⟨rfl, rfl, rfl, rfl⟩

set_option maxRecDepth 100000 in
set_option maxHeartbeats 4000000 in
theorem x_linkCount2 (l : Launch) (D : va_G) (cA : Nat → ClassId) {ro : Nat → Nat} {I : Nat → Nat → Int32} {F : Nat → Nat → Option Nat} {a : Nat} (ht : ol_th ro a) : ol_M l D cA yX2_linkCount cX2_linkCount 1 (some FieldType.int) (ol_r 0 0 0) [.ref a] ro I F (ol_ei 6 ro I F) := by
  refine ol_M.of (by decide +kernel) (Nat.le_of_ble_eq_true rfl) (by simp [Value.category, ol_rfc]) ?_
  intro p e s m args below meth c C hret hlk hin
  refine ol_bipush (v := 6) C dX2_linkCount_0 (by decide) ?_
  exact ol_iret C hret hlk rfl (by decide) (by decide) dX2_linkCount_2 ⟨rfl, rfl, rfl, rfl⟩

set_option maxRecDepth 100000 in
set_option maxHeartbeats 4000000 in
theorem x_linkCount8 (l : Launch) (D : va_G) (cA : Nat → ClassId) {ro : Nat → Nat} {I : Nat → Nat → Int32} {F : Nat → Nat → Option Nat} {a : Nat} (ht : ol_th ro a) : ol_M l D cA yX8_linkCount cX8_linkCount 1 (some FieldType.int) (ol_r 0 0 0) [.ref a] ro I F (ol_ei 1 ro I F) := by
  refine ol_M.of (by decide +kernel) (Nat.le_of_ble_eq_true rfl) (by simp [Value.category, ol_rfc]) ?_
  intro p e s m args below meth c C hret hlk hin
  refine ol_iconst (v := 1) C dX8_linkCount_0 (by decide) ?_
  exact ol_iret C hret hlk rfl (by decide) (by decide) dX8_linkCount_1 ⟨rfl, rfl, rfl, rfl⟩

set_option maxRecDepth 100000 in
set_option maxHeartbeats 4000000 in
theorem x_link2 (l : Launch) (D : va_G) (cA : Nat → ClassId) {ro : Nat → Nat} {I : Nat → Nat → Int32} {F : Nat → Nat → Option Nat} {a pa : Nat} (ht : ol_th ro a) (hF : F a 1 = some pa) (hp : ol_is ro pa (.inr (2, 6))) (i : Int32) : ol_M l D cA yX2_link cX2_link 2 (some (FieldType.object "ObjectLoads$Thing")) (ol_r 1 0 0) [.ref a, .int i] ro I F (ol_eq (ol_if (ol_k 6 i) (F pa i.toNatClampNeg) none) ro I F) := by
  refine ol_M.of (by decide +kernel) (Nat.le_of_ble_eq_true rfl) (by simp [Value.category, ol_rfc]) ?_
  intro p e s m args below meth c C hret hlk hin
  refine ol_iload_n C dX2_link_0 rfl rfl ?_
  refine ol_callSN (host := "ObjectLoads") C (m_isPlace l D cA i) wd_300 wd_1 (by decide) wd_299 mh_X10_isPlace (by decide) rfl (by first | exact Nat.le_of_ble_eq_true rfl | simp [ol_rfc, Value.category]) dX2_link_1 (ol_xi ?_)
  refine ol_if_eq (tgt := 16) C dX2_link_4 (by decide) (fun c_4 => ?_) (fun c_4 => ?_)
  · have hK : ¬ ol_k 6 i := ol_p_0.mp c_4
    refine ol_null C dX2_link_16 ?_
    exact ol_aret (r := none) C rfl hret (Or.inl ⟨_, rfl⟩) hlk (by decide) (by decide) dX2_link_17 ⟨ol_ifq hK, rfl, rfl, rfl⟩
  · have hK : ol_k 6 i := ol_p_n.mp c_4
    obtain ⟨j, hj, ej, hj31⟩ := ol_k_ix hK (by omega)
    refine ol_aload_n C dX2_link_7 rfl rfl (by first | exact ol_isq_r _ | exact ol_isq_q _ | exact ol_isq_n) ?_
    refine ol_tgR C (by assumption) ol_tf1 wd_143 (.inr wd_144) dX2_link_8 ?_
    refine ol_rf (by assumption) ?_
    refine ol_iload_n C dX2_link_11 rfl rfl ?_
    refine ol_lT j C (by assumption) ej hj (by decide) dX2_link_12 ?_
    refine ol_goto (tgt := 17) C dX2_link_13 (by decide) ?_
    exact ol_aret C rfl hret (Or.inl ⟨_, rfl⟩) hlk (by decide) (by decide) dX2_link_17 ⟨by rw [ol_if_t hK, ej, nI_clamp hj31], rfl, rfl, rfl⟩

set_option maxRecDepth 100000 in
set_option maxHeartbeats 4000000 in
theorem x_link8 (l : Launch) (D : va_G) (cA : Nat → ClassId) {ro : Nat → Nat} {I : Nat → Nat → Int32} {F : Nat → Nat → Option Nat} {a pa : Nat} (ht : ol_th ro a) (hF : F a 1 = some pa) (hp : ol_is ro pa (.inr (2, 6))) (hr : ro a = 7) (i : Int32) : ol_M l D cA yX8_link cX8_link 2 (some (FieldType.object "ObjectLoads$Thing")) (ol_r 2 0 0) [.ref a, .int i] ro I F (ol_eq (ol_if (ol_k 6 (I a 3)) (F pa (I a 3).toNatClampNeg) none) ro I F) := by
  refine ol_M.of (by decide +kernel) (Nat.le_of_ble_eq_true rfl) (by simp [Value.category, ol_rfc]) ?_
  intro p e s m args below meth c C hret hlk hin
  have hi : ol_is ro a (.inl 6) := ol_is_of hr (by decide) rfl
  refine ol_aload_n C dX8_link_0 rfl rfl (by first | exact ol_isq_r _ | exact ol_isq_q _ | exact ol_isq_n) ?_
  refine ol_aload_n C dX8_link_1 rfl rfl (by first | exact ol_isq_r _ | exact ol_isq_q _ | exact ol_isq_n) ?_
  refine ol_tgI C (by assumption) ol_tf3 wd_151 (.inr wd_152) dX8_link_2 ?_
  refine ol_callSU C (x_link2 l D cA ht hF hp (I a 3)) hi.1 hi.2 rfl wd_461 wd_7 wd_469 wd_809 wd_243 wd_460 mhs_X2_link (by decide) rfl (by first | exact Nat.le_of_ble_eq_true rfl | simp [ol_rfc, Value.category]) dX8_link_5 (ol_xq ?_)
  exact ol_aret C rfl hret (Or.inl ⟨_, rfl⟩) hlk (by decide) (by decide) dX8_link_8 ⟨rfl, rfl, rfl, rfl⟩

set_option maxRecDepth 100000 in
set_option maxHeartbeats 4000000 in
theorem x_linksCause8 (l : Launch) (D : va_G) (cA : Nat → ClassId) {ro : Nat → Nat} {I : Nat → Nat → Int32} {F : Nat → Nat → Option Nat} {a : Nat} (ht : ol_th ro a) : ol_M l D cA yX8_linksCause cX8_linksCause 1 (some FieldType.int) (ol_r 1 0 0) [.ref a] ro I F (ol_ei (ol_if (ol_k 6 (I a 3)) 0 2) ro I F) := by
  refine ol_M.of (by decide +kernel) (Nat.le_of_ble_eq_true rfl) (by simp [Value.category, ol_rfc]) ?_
  intro p e s m args below meth c C hret hlk hin
  refine ol_aload_n C dX8_linksCause_0 rfl rfl (by first | exact ol_isq_r _ | exact ol_isq_q _ | exact ol_isq_n) ?_
  refine ol_tgI C (by assumption) ol_tf3 wd_151 (.inr wd_152) dX8_linksCause_1 ?_
  refine ol_callSN (host := "ObjectLoads") C (m_isPlace l D cA (I a 3)) wd_300 wd_1 (by decide) wd_299 mh_X10_isPlace (by decide) rfl (by first | exact Nat.le_of_ble_eq_true rfl | simp [ol_rfc, Value.category]) dX8_linksCause_4 (ol_xi ?_)
  refine ol_if_eq (tgt := 14) C dX8_linksCause_7 (by decide) (fun c_7 => ?_) (fun c_7 => ?_)
  · refine ol_iconst (v := 2) C dX8_linksCause_14 (by decide) ?_
    exact ol_iret C hret hlk rfl (by decide) (by decide) dX8_linksCause_15 ⟨by rw [ol_if_f (show ¬ ol_k 6 (I a 3) from ol_p_0.mp c_7)], rfl, rfl, rfl⟩
  · refine ol_iconst (v := 0) C dX8_linksCause_10 (by decide) ?_
    refine ol_goto (tgt := 15) C dX8_linksCause_11 (by decide) ?_
    exact ol_iret C hret hlk rfl (by decide) (by decide) dX8_linksCause_15 ⟨by rw [ol_if_t (show ol_k 6 (I a 3) from ol_p_n.mp c_7)], rfl, rfl, rfl⟩

set_option maxRecDepth 100000 in
set_option maxHeartbeats 4000000 in
theorem x_otherEnd (l : Launch) (D : va_G) (cA : Nat → ClassId) {ro : Nat → Nat} {I : Nat → Nat → Int32} {F : Nat → Nat → Option Nat} {a pa : Nat} (ht : ol_th ro a) (hF : F a 1 = some pa) (hp : ol_is ro pa (.inr (2, 6))) {b : Nat} : ol_M l D cA yX0_otherEnd cX0_otherEnd 2 (some (FieldType.object "ObjectLoads$Thing")) (ol_r 0 0 0) [.ref a, .ref b] ro I F (ol_eq (ol_if (F pa 0 = some b) (F pa 1) (F pa 0)) ro I F) := by
  refine ol_M.of (by decide +kernel) (Nat.le_of_ble_eq_true rfl) (by simp [Value.category, ol_rfc]) ?_
  intro p e s m args below meth c C hret hlk hin
  refine ol_aload_n C dX0_otherEnd_0 rfl rfl (by first | exact ol_isq_r _ | exact ol_isq_q _ | exact ol_isq_n) ?_
  refine ol_tgR C (by assumption) ol_tf1 wd_141 (.inr wd_142) dX0_otherEnd_1 ?_
  refine ol_rf (by assumption) ?_
  refine ol_iconst (v := 0) C dX0_otherEnd_4 (by decide) ?_
  refine ol_lT 0 C (by assumption) rfl (by decide) (by decide) dX0_otherEnd_5 ?_
  refine ol_aload_n C dX0_otherEnd_6 rfl rfl (by first | exact ol_isq_r _ | exact ol_isq_q _ | exact ol_isq_n) ?_
  refine ol_acmp_ne (tgt := 19) (ry := some b) C dX0_otherEnd_7 (by decide) (fun c_7 => ?_) (fun c_7 => ?_)
  · refine ol_aload_n C dX0_otherEnd_19 rfl rfl (by first | exact ol_isq_r _ | exact ol_isq_q _ | exact ol_isq_n) ?_
    refine ol_tgR C (by assumption) ol_tf1 wd_141 (.inr wd_142) dX0_otherEnd_20 ?_
    refine ol_rf (by assumption) ?_
    refine ol_iconst (v := 0) C dX0_otherEnd_23 (by decide) ?_
    refine ol_lT 0 C (by assumption) rfl (by decide) (by decide) dX0_otherEnd_24 ?_
    exact ol_aret C rfl hret (Or.inl ⟨_, rfl⟩) hlk (by decide) (by decide) dX0_otherEnd_25 ⟨by rw [ol_if_f c_7], rfl, rfl, rfl⟩
  · refine ol_aload_n C dX0_otherEnd_10 rfl rfl (by first | exact ol_isq_r _ | exact ol_isq_q _ | exact ol_isq_n) ?_
    refine ol_tgR C (by assumption) ol_tf1 wd_141 (.inr wd_142) dX0_otherEnd_11 ?_
    refine ol_rf (by assumption) ?_
    refine ol_iconst (v := 1) C dX0_otherEnd_14 (by decide) ?_
    refine ol_lT 1 C (by assumption) rfl (by decide) (by decide) dX0_otherEnd_15 ?_
    refine ol_goto (tgt := 25) C dX0_otherEnd_16 (by decide) ?_
    exact ol_aret C rfl hret (Or.inl ⟨_, rfl⟩) hlk (by decide) (by decide) dX0_otherEnd_25 ⟨by rw [ol_if_t c_7], rfl, rfl, rfl⟩
