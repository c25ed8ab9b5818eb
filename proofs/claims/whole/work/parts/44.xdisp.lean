/-- thing t as the class holds it: ta t its address, pa t that of its places -/
def ol_xt (ro : Nat → Nat) (I : Nat → Nat → Int32) (F : Nat → Nat → Option Nat) (ta pa : Nat → Nat) (So : Nat → Nat) (T : Nat → Nat → Int32) (P : Nat → Nat → Option Nat) (t : Nat) : Prop :=
  ro (ta t) = So t + 2 ∧ I (ta t) 0 = nI t ∧ I (ta t) 2 = T 1 t ∧ I (ta t) 3 = T 2 t ∧ I (ta t) 5 = T 3 t ∧ I (ta t) 6 = T 4 t ∧ F (ta t) 1 = some (pa t) ∧ ro (pa t) = 12 ∧ F (ta t) 4 = (P 0 t).map ta ∧ ∀ i, i < 6 → F (pa t) i = (P (1 + i) t).map ta
/-- all things as the class holds them -/
def ol_XT (ro : Nat → Nat) (I : Nat → Nat → Int32) (F : Nat → Nat → Option Nat) (ad ta pa : Nat → Nat) (n : Nat) (So : Nat → Nat) (T : Nat → Nat → Int32) (P : Nat → Nat → Option Nat) : Prop :=
  I (ad 1) 1 = nI n ∧ (∀ t, t < n → F (ad 11) t = some (ta t) ∧ ol_xt ro I F ta pa So T P t) ∧ ∀ t s, t < n → s < n → pa s = pa t → s = t
theorem ol_xt.th {ro : Nat → Nat} {I : Nat → Nat → Int32} {F : Nat → Nat → Option Nat} {ta pa : Nat → Nat} {So : Nat → Nat} {T : Nat → Nat → Int32} {P : Nat → Nat → Option Nat} {t : Nat} (h : ol_xt ro I F ta pa So T P t) (h6 : So t ≤ 6) : ol_th ro (ta t) := ⟨by rw [h.1]; omega, by rw [h.1]; omega⟩
theorem ol_xt.ps {ro : Nat → Nat} {I : Nat → Nat → Int32} {F : Nat → Nat → Option Nat} {ta pa : Nat → Nat} {So : Nat → Nat} {T : Nat → Nat → Int32} {P : Nat → Nat → Option Nat} {t : Nat} (h : ol_xt ro I F ta pa So T P t) : ol_is ro (pa t) (.inr (2, 6)) := ol_is_of h.2.2.2.2.2.2.2.1 (by decide) rfl
theorem ol_map_some {q : Option Nat} {ta : Nat → Nat} {b : Nat} (h : q.map ta = some b) : ∃ u, q = some u ∧ b = ta u := by
  cases q with
  | none => cases h
  | some u => exact ⟨u, rfl, (Option.some.inj h).symm⟩
section OLXT
variable {ro : Nat → Nat} {I : Nat → Nat → Int32} {F : Nat → Nat → Option Nat} {ad ta pa : Nat → Nat} {n : Nat} {So : Nat → Nat} {T : Nat → Nat → Int32} {P : Nat → Nat → Option Nat}
/-- references lead to things -/
theorem ol_XT.rth (h : ol_XT ro I F ad ta pa n So T P) (hV : ol_V n So T P) {q : Option Nat} (hq : ∀ u, q = some u → u < n) : ∀ b, q.map ta = some b → ol_th ro b := by
  intro b hb
  obtain ⟨u, h1, rfl⟩ := ol_map_some hb
  exact (h.2.1 u (hq u h1)).2.th (hV.2 u (hq u h1)).1
theorem ol_XT.rbr (h : ol_XT ro I F ad ta pa n So T P) {q : Option Nat} (hq : ∀ u, q = some u → u < n) : (∃ b, q.map ta = some b ∧ ro b = 4) ↔ ol_br So q := by
  constructor
  · rintro ⟨b, h1, h2⟩
    obtain ⟨u, h3, rfl⟩ := ol_map_some h1
    rw [(h.2.1 u (hq u h3)).2.1] at h2
    exact ⟨u, h3, by omega⟩
  · rintro ⟨u, h1, h2⟩
    refine ⟨ta u, by rw [h1]; rfl, ?_⟩
    rw [(h.2.1 u (hq u h1)).2.1, h2]
theorem ol_XT.inj (h : ol_XT ro I F ad ta pa n So T P) (hn : n ≤ 40) {t s : Nat} (ht : t < n) (hs : s < n) (e : ta t = ta s) : t = s := by
  have a := (h.2.1 t ht).2.2.1
  have b := (h.2.1 s hs).2.2.1
  rw [e, b] at a
  exact ((nI_eq (by omega) (by omega)).mp a).symm
end OLXT
theorem ol_rm_le {R : Room} {h n h2 n2 cells slots : Nat} (hR : ol_rm R (ol_r h 0 0) n cells slots) (hh : h2 ≤ h) (hn : n2 ≤ n) : ol_rm R (ol_r h2 0 0) n2 cells slots := by
  obtain ⟨⟨a, b⟩, c⟩ := hR
  refine ⟨⟨?_, ?_⟩, c⟩
  · show h2 + 1 ≤ R.frames
    have : h + 1 ≤ R.frames := a
    omega
  · show 8 + (n2 + 11) + 32 * h2 ≤ R.locals
    have : 8 + (n + 11) + 32 * h ≤ R.locals := b
    omega

section OLDV
variable {p : Program} {l : Launch} {e : Env} {R : Room} {s : State} {m : MethodId} {args : Array Value} {below : List Frame} {meth : Method} {c : Code} {D : va_G} {cA : Nat → ClassId} {A : Nat → Prop} {Q : State → Prop} {nL : Nat} {ro : Nat → Nat} {I : Nat → Nat → Int32} {F : Nat → Nat → Option Nat} {cells slots pc : Nat} {lv : List (Option Value)} {rest : List Value} {cc : ByteArray} {own : String}
set_option maxRecDepth 100000 in
set_option maxHeartbeats 4000000 in
theorem dv_keyCause_Node {ad ta pa : Nat → Nat} {n t index : Nat} {So : Nat → Nat} {T : Nat → Nat → Int32} {P : Nat → Nat → Option Nat} (C : ol_Cx p s m args c cc nL "ObjectLoads" D cA A) (hX : ol_XT ro I F ad ta pa n So T P) (hV : ol_V n So T P) (htn : t < n) (hnb : ¬ So t = 2) (hlink : Cond.methodLink "ObjectLoads" index ⟨"ObjectLoads$Node", "keyCause", "()I"⟩ ∈ ol_all) (hR : ol_rm R (ol_r 2 0 0) 2 cells slots) (hW : (rest.map fun v => v.category).sum ≤ 8) (hdg : decode cc pc = .ok (.invokevirtual index, 3)) (kk : ol_W p l e R s m args below meth c D cA A Q nL ro I F cells slots (pc + 3) lv (.int (sp_kc So T t) :: rest)) : ol_W p l e R s m args below meth c D cA A Q nL ro I F cells slots pc lv (.ref (ta t) :: rest) := by
  have h6 := (hV.2 t htn).1
  have hx := (hX.2.1 t htn).2
  have ht := hx.th h6
  obtain ⟨hro, -, e2, e3, e5, -, hpl, -, e4, ep⟩ := id hx
  have hps := hx.ps
  have hp0 := (hV.2 t htn).2.2 0 (by decide)
  have hpq : ∀ i, i < 6 → ∀ u, P (1 + i) t = some u → u < n := fun i hi => (hV.2 t htn).2.2 (1 + i) (by omega)
  have hnx : ∀ b, F (ta t) 4 = some b → ol_th ro b := by rw [e4]; exact hX.rth hV hp0
  have hpt : ∀ i, i < 6 → ∀ b, F (pa t) i = some b → ol_th ro b := fun i hi => by rw [ep i hi]; exact hX.rth hV (hpq i hi)
  have h0 : ro (ta t) ≠ 0 := by rw [hro]; omega
  have hsr : So t = 0 ∨ So t = 1 ∨ So t = 3 ∨ So t = 4 ∨ So t = 5 ∨ So t = 6 := by omega
  rcases hsr with hS | hS | hS | hS | hS | hS
  · have hr : ro (ta t) = 2 := by rw [hro, hS]
    refine ol_callU (As := []) (owner := "ObjectLoads$Thing") (x := ⟨"ObjectLoads$Node", "keyCause", "()I"⟩) C (x_keyCause9 l D cA ht) h0 (show ol_ct (ro (ta t)) = .inl 1 by rw [hr]; rfl) rfl wd_361 wd_5 hlink wd_350 (by decide) wd_360 wd_358 mhu_ObjectLoads_Node_keyCause (ol_rm_le hR (by decide) (by decide)) rfl hW hdg (ol_xi ?_)
    rw [show (0 : Int32) = sp_kc So T t from (ol_p_f (fun q => by omega)).symm]
    exact kk
  · have hr : ro (ta t) = 3 := by rw [hro, hS]
    refine ol_callU (As := []) (owner := "ObjectLoads$Thing") (x := ⟨"ObjectLoads$Node", "keyCause", "()I"⟩) C (x_keyCause9 l D cA ht) h0 (show ol_ct (ro (ta t)) = .inl 2 by rw [hr]; rfl) rfl wd_361 wd_5 hlink wd_350 (by decide) wd_360 wd_353 mhu_ObjectLoads_Node_keyCause (ol_rm_le hR (by decide) (by decide)) rfl hW hdg (ol_xi ?_)
    rw [show (0 : Int32) = sp_kc So T t from (ol_p_f (fun q => by omega)).symm]
    exact kk
  · have hr : ro (ta t) = 5 := by rw [hro, hS]
    refine ol_callU (As := []) (owner := "ObjectLoads$Thing") (x := ⟨"ObjectLoads$Node", "keyCause", "()I"⟩) C (x_keyCause9 l D cA ht) h0 (show ol_ct (ro (ta t)) = .inl 4 by rw [hr]; rfl) rfl wd_361 wd_5 hlink wd_350 (by decide) wd_360 wd_352 mhu_ObjectLoads_Node_keyCause (ol_rm_le hR (by decide) (by decide)) rfl hW hdg (ol_xi ?_)
    rw [show (0 : Int32) = sp_kc So T t from (ol_p_f (fun q => by omega)).symm]
    exact kk
  · have hr : ro (ta t) = 6 := by rw [hro, hS]
    refine ol_callU (As := []) (owner := "ObjectLoads$Thing") (x := ⟨"ObjectLoads$Node", "keyCause", "()I"⟩) C (x_keyCause9 l D cA ht) h0 (show ol_ct (ro (ta t)) = .inl 5 by rw [hr]; rfl) rfl wd_361 wd_5 hlink wd_350 (by decide) wd_360 wd_357 mhu_ObjectLoads_Node_keyCause (ol_rm_le hR (by decide) (by decide)) rfl hW hdg (ol_xi ?_)
    rw [show (0 : Int32) = sp_kc So T t from (ol_p_f (fun q => by omega)).symm]
    exact kk
  · have hr : ro (ta t) = 7 := by rw [hro, hS]
    refine ol_callU (As := []) (owner := "ObjectLoads$Thing") (x := ⟨"ObjectLoads$Node", "keyCause", "()I"⟩) C (x_keyCause9 l D cA ht) h0 (show ol_ct (ro (ta t)) = .inl 6 by rw [hr]; rfl) rfl wd_361 wd_5 hlink wd_350 (by decide) wd_360 wd_359 mhu_ObjectLoads_Node_keyCause (ol_rm_le hR (by decide) (by decide)) rfl hW hdg (ol_xi ?_)
    rw [show (0 : Int32) = sp_kc So T t from (ol_p_f (fun q => by omega)).symm]
    exact kk
  · have hr : ro (ta t) = 8 := by rw [hro, hS]
    refine ol_callU (As := []) (owner := "ObjectLoads$Thing") (x := ⟨"ObjectLoads$Node", "keyCause", "()I"⟩) C (x_keyCause3 l D cA ht) h0 (show ol_ct (ro (ta t)) = .inl 7 by rw [hr]; rfl) rfl wd_356 wd_13 hlink wd_350 (by decide) wd_355 wd_354 mhu_ObjectLoads_Node_keyCause (ol_rm_le hR (by decide) (by decide)) rfl hW hdg (ol_xi ?_)
    rw [show ol_p (I (ta t) 5 = 0) = sp_kc So T t from ol_p_c (by rw [e5]; exact ⟨fun q => ⟨hS, q⟩, fun q => q.2⟩)]
    exact kk

set_option maxRecDepth 100000 in
set_option maxHeartbeats 4000000 in
theorem dv_toldKey_Node {ad ta pa : Nat → Nat} {n t index : Nat} {So : Nat → Nat} {T : Nat → Nat → Int32} {P : Nat → Nat → Option Nat} (C : ol_Cx p s m args c cc nL "ObjectLoads" D cA A) (hX : ol_XT ro I F ad ta pa n So T P) (hV : ol_V n So T P) (htn : t < n) (hnb : ¬ So t = 2) (hlink : Cond.methodLink "ObjectLoads" index ⟨"ObjectLoads$Node", "toldKey", "()I"⟩ ∈ ol_all) (hR : ol_rm R (ol_r 2 0 0) 2 cells slots) (hW : (rest.map fun v => v.category).sum ≤ 8) (hdg : decode cc pc = .ok (.invokevirtual index, 3)) (kk : ol_W p l e R s m args below meth c D cA A Q nL ro I F cells slots (pc + 3) lv (.int (T 1 t) :: rest)) : ol_W p l e R s m args below meth c D cA A Q nL ro I F cells slots pc lv (.ref (ta t) :: rest) := by
  have h6 := (hV.2 t htn).1
  have hx := (hX.2.1 t htn).2
  have ht := hx.th h6
  obtain ⟨hro, -, e2, e3, e5, -, hpl, -, e4, ep⟩ := id hx
  have hps := hx.ps
  have hp0 := (hV.2 t htn).2.2 0 (by decide)
  have hpq : ∀ i, i < 6 → ∀ u, P (1 + i) t = some u → u < n := fun i hi => (hV.2 t htn).2.2 (1 + i) (by omega)
  have hnx : ∀ b, F (ta t) 4 = some b → ol_th ro b := by rw [e4]; exact hX.rth hV hp0
  have hpt : ∀ i, i < 6 → ∀ b, F (pa t) i = some b → ol_th ro b := fun i hi => by rw [ep i hi]; exact hX.rth hV (hpq i hi)
  have h0 : ro (ta t) ≠ 0 := by rw [hro]; omega
  have hsr : So t = 0 ∨ So t = 1 ∨ So t = 3 ∨ So t = 4 ∨ So t = 5 ∨ So t = 6 := by omega
  rcases hsr with hS | hS | hS | hS | hS | hS
  · have hr : ro (ta t) = 2 := by rw [hro, hS]
    refine ol_callU (As := []) (owner := "ObjectLoads$Thing") (x := ⟨"ObjectLoads$Node", "toldKey", "()I"⟩) C (x_toldKey l D cA ht) h0 (show ol_ct (ro (ta t)) = .inl 1 by rw [hr]; rfl) rfl wd_376 wd_5 hlink wd_367 (by decide) wd_375 wd_373 mhu_ObjectLoads_Node_toldKey (ol_rm_le hR (by decide) (by decide)) rfl hW hdg (ol_xi ?_)
    rw [e2]
    exact kk
  · have hr : ro (ta t) = 3 := by rw [hro, hS]
    refine ol_callU (As := []) (owner := "ObjectLoads$Thing") (x := ⟨"ObjectLoads$Node", "toldKey", "()I"⟩) C (x_toldKey l D cA ht) h0 (show ol_ct (ro (ta t)) = .inl 2 by rw [hr]; rfl) rfl wd_376 wd_5 hlink wd_367 (by decide) wd_375 wd_370 mhu_ObjectLoads_Node_toldKey (ol_rm_le hR (by decide) (by decide)) rfl hW hdg (ol_xi ?_)
    rw [e2]
    exact kk
  · have hr : ro (ta t) = 5 := by rw [hro, hS]
    refine ol_callU (As := []) (owner := "ObjectLoads$Thing") (x := ⟨"ObjectLoads$Node", "toldKey", "()I"⟩) C (x_toldKey l D cA ht) h0 (show ol_ct (ro (ta t)) = .inl 4 by rw [hr]; rfl) rfl wd_376 wd_5 hlink wd_367 (by decide) wd_375 wd_369 mhu_ObjectLoads_Node_toldKey (ol_rm_le hR (by decide) (by decide)) rfl hW hdg (ol_xi ?_)
    rw [e2]
    exact kk
  · have hr : ro (ta t) = 6 := by rw [hro, hS]
    refine ol_callU (As := []) (owner := "ObjectLoads$Thing") (x := ⟨"ObjectLoads$Node", "toldKey", "()I"⟩) C (x_toldKey l D cA ht) h0 (show ol_ct (ro (ta t)) = .inl 5 by rw [hr]; rfl) rfl wd_376 wd_5 hlink wd_367 (by decide) wd_375 wd_372 mhu_ObjectLoads_Node_toldKey (ol_rm_le hR (by decide) (by decide)) rfl hW hdg (ol_xi ?_)
    rw [e2]
    exact kk
  · have hr : ro (ta t) = 7 := by rw [hro, hS]
    refine ol_callU (As := []) (owner := "ObjectLoads$Thing") (x := ⟨"ObjectLoads$Node", "toldKey", "()I"⟩) C (x_toldKey l D cA ht) h0 (show ol_ct (ro (ta t)) = .inl 6 by rw [hr]; rfl) rfl wd_376 wd_5 hlink wd_367 (by decide) wd_375 wd_374 mhu_ObjectLoads_Node_toldKey (ol_rm_le hR (by decide) (by decide)) rfl hW hdg (ol_xi ?_)
    rw [e2]
    exact kk
  · have hr : ro (ta t) = 8 := by rw [hro, hS]
    refine ol_callU (As := []) (owner := "ObjectLoads$Thing") (x := ⟨"ObjectLoads$Node", "toldKey", "()I"⟩) C (x_toldKey l D cA ht) h0 (show ol_ct (ro (ta t)) = .inl 7 by rw [hr]; rfl) rfl wd_376 wd_5 hlink wd_367 (by decide) wd_375 wd_371 mhu_ObjectLoads_Node_toldKey (ol_rm_le hR (by decide) (by decide)) rfl hW hdg (ol_xi ?_)
    rw [e2]
    exact kk

set_option maxRecDepth 100000 in
set_option maxHeartbeats 4000000 in
theorem dv_valueCause_Node {ad ta pa : Nat → Nat} {n t index : Nat} {So : Nat → Nat} {T : Nat → Nat → Int32} {P : Nat → Nat → Option Nat} (C : ol_Cx p s m args c cc nL "ObjectLoads" D cA A) (hX : ol_XT ro I F ad ta pa n So T P) (hV : ol_V n So T P) (htn : t < n) (hnb : ¬ So t = 2) (hlink : Cond.methodLink "ObjectLoads" index ⟨"ObjectLoads$Node", "valueCause", "()I"⟩ ∈ ol_all) (hR : ol_rm R (ol_r 2 0 0) 2 cells slots) (hW : (rest.map fun v => v.category).sum ≤ 8) (hdg : decode cc pc = .ok (.invokevirtual index, 3)) (kk : ol_W p l e R s m args below meth c D cA A Q nL ro I F cells slots (pc + 3) lv (.int (sp_vc So T t) :: rest)) : ol_W p l e R s m args below meth c D cA A Q nL ro I F cells slots pc lv (.ref (ta t) :: rest) := by
  have h6 := (hV.2 t htn).1
  have hx := (hX.2.1 t htn).2
  have ht := hx.th h6
  obtain ⟨hro, -, e2, e3, e5, -, hpl, -, e4, ep⟩ := id hx
  have hps := hx.ps
  have hp0 := (hV.2 t htn).2.2 0 (by decide)
  have hpq : ∀ i, i < 6 → ∀ u, P (1 + i) t = some u → u < n := fun i hi => (hV.2 t htn).2.2 (1 + i) (by omega)
  have hnx : ∀ b, F (ta t) 4 = some b → ol_th ro b := by rw [e4]; exact hX.rth hV hp0
  have hpt : ∀ i, i < 6 → ∀ b, F (pa t) i = some b → ol_th ro b := fun i hi => by rw [ep i hi]; exact hX.rth hV (hpq i hi)
  have h0 : ro (ta t) ≠ 0 := by rw [hro]; omega
  have hsr : So t = 0 ∨ So t = 1 ∨ So t = 3 ∨ So t = 4 ∨ So t = 5 ∨ So t = 6 := by omega
  rcases hsr with hS | hS | hS | hS | hS | hS
  · have hr : ro (ta t) = 2 := by rw [hro, hS]
    refine ol_callU (As := []) (owner := "ObjectLoads$Thing") (x := ⟨"ObjectLoads$Node", "valueCause", "()I"⟩) C (x_valueCause9 l D cA ht) h0 (show ol_ct (ro (ta t)) = .inl 1 by rw [hr]; rfl) rfl wd_393 wd_5 hlink wd_382 (by decide) wd_392 wd_390 mhu_ObjectLoads_Node_valueCause (ol_rm_le hR (by decide) (by decide)) rfl hW hdg (ol_xi ?_)
    rw [show (0 : Int32) = sp_vc So T t from (ol_if_f (fun q => by omega)).symm]
    exact kk
  · have hr : ro (ta t) = 3 := by rw [hro, hS]
    refine ol_callU (As := []) (owner := "ObjectLoads$Thing") (x := ⟨"ObjectLoads$Node", "valueCause", "()I"⟩) C (x_valueCause9 l D cA ht) h0 (show ol_ct (ro (ta t)) = .inl 2 by rw [hr]; rfl) rfl wd_393 wd_5 hlink wd_382 (by decide) wd_392 wd_387 mhu_ObjectLoads_Node_valueCause (ol_rm_le hR (by decide) (by decide)) rfl hW hdg (ol_xi ?_)
    rw [show (0 : Int32) = sp_vc So T t from (ol_if_f (fun q => by omega)).symm]
    exact kk
  · have hr : ro (ta t) = 5 := by rw [hro, hS]
    refine ol_callU (As := []) (owner := "ObjectLoads$Thing") (x := ⟨"ObjectLoads$Node", "valueCause", "()I"⟩) C (x_valueCause1 l D cA ht) h0 (show ol_ct (ro (ta t)) = .inl 4 by rw [hr]; rfl) rfl wd_386 wd_10 hlink wd_382 (by decide) wd_385 wd_384 mhu_ObjectLoads_Node_valueCause (ol_rm_le hR (by decide) (by decide)) rfl hW hdg (ol_xi ?_)
    rw [show ol_if (I (ta t) 3 = 0) (4 : Int32) 0 = sp_vc So T t from by rw [e3]; exact congrArg (fun z => ol_if z (4 : Int32) 0) (propext ⟨fun q => ⟨hS, q⟩, fun q => q.2⟩)]
    exact kk
  · have hr : ro (ta t) = 6 := by rw [hro, hS]
    refine ol_callU (As := []) (owner := "ObjectLoads$Thing") (x := ⟨"ObjectLoads$Node", "valueCause", "()I"⟩) C (x_valueCause9 l D cA ht) h0 (show ol_ct (ro (ta t)) = .inl 5 by rw [hr]; rfl) rfl wd_393 wd_5 hlink wd_382 (by decide) wd_392 wd_389 mhu_ObjectLoads_Node_valueCause (ol_rm_le hR (by decide) (by decide)) rfl hW hdg (ol_xi ?_)
    rw [show (0 : Int32) = sp_vc So T t from (ol_if_f (fun q => by omega)).symm]
    exact kk
  · have hr : ro (ta t) = 7 := by rw [hro, hS]
    refine ol_callU (As := []) (owner := "ObjectLoads$Thing") (x := ⟨"ObjectLoads$Node", "valueCause", "()I"⟩) C (x_valueCause9 l D cA ht) h0 (show ol_ct (ro (ta t)) = .inl 6 by rw [hr]; rfl) rfl wd_393 wd_5 hlink wd_382 (by decide) wd_392 wd_391 mhu_ObjectLoads_Node_valueCause (ol_rm_le hR (by decide) (by decide)) rfl hW hdg (ol_xi ?_)
    rw [show (0 : Int32) = sp_vc So T t from (ol_if_f (fun q => by omega)).symm]
    exact kk
  · have hr : ro (ta t) = 8 := by rw [hro, hS]
    refine ol_callU (As := []) (owner := "ObjectLoads$Thing") (x := ⟨"ObjectLoads$Node", "valueCause", "()I"⟩) C (x_valueCause9 l D cA ht) h0 (show ol_ct (ro (ta t)) = .inl 7 by rw [hr]; rfl) rfl wd_393 wd_5 hlink wd_382 (by decide) wd_392 wd_388 mhu_ObjectLoads_Node_valueCause (ol_rm_le hR (by decide) (by decide)) rfl hW hdg (ol_xi ?_)
    rw [show (0 : Int32) = sp_vc So T t from (ol_if_f (fun q => by omega)).symm]
    exact kk

set_option maxRecDepth 100000 in
set_option maxHeartbeats 4000000 in
theorem dv_toldValue_Node {ad ta pa : Nat → Nat} {n t index : Nat} {So : Nat → Nat} {T : Nat → Nat → Int32} {P : Nat → Nat → Option Nat} (C : ol_Cx p s m args c cc nL "ObjectLoads" D cA A) (hX : ol_XT ro I F ad ta pa n So T P) (hV : ol_V n So T P) (htn : t < n) (hnb : ¬ So t = 2) (hlink : Cond.methodLink "ObjectLoads" index ⟨"ObjectLoads$Node", "toldValue", "()I"⟩ ∈ ol_all) (hR : ol_rm R (ol_r 2 0 0) 2 cells slots) (hW : (rest.map fun v => v.category).sum ≤ 8) (hdg : decode cc pc = .ok (.invokevirtual index, 3)) (kk : ol_W p l e R s m args below meth c D cA A Q nL ro I F cells slots (pc + 3) lv (.int (sp_vv So T t) :: rest)) : ol_W p l e R s m args below meth c D cA A Q nL ro I F cells slots pc lv (.ref (ta t) :: rest) := by
  have h6 := (hV.2 t htn).1
  have hx := (hX.2.1 t htn).2
  have ht := hx.th h6
  obtain ⟨hro, -, e2, e3, e5, -, hpl, -, e4, ep⟩ := id hx
  have hps := hx.ps
  have hp0 := (hV.2 t htn).2.2 0 (by decide)
  have hpq : ∀ i, i < 6 → ∀ u, P (1 + i) t = some u → u < n := fun i hi => (hV.2 t htn).2.2 (1 + i) (by omega)
  have hnx : ∀ b, F (ta t) 4 = some b → ol_th ro b := by rw [e4]; exact hX.rth hV hp0
  have hpt : ∀ i, i < 6 → ∀ b, F (pa t) i = some b → ol_th ro b := fun i hi => by rw [ep i hi]; exact hX.rth hV (hpq i hi)
  have h0 : ro (ta t) ≠ 0 := by rw [hro]; omega
  have hsr : So t = 0 ∨ So t = 1 ∨ So t = 3 ∨ So t = 4 ∨ So t = 5 ∨ So t = 6 := by omega
  rcases hsr with hS | hS | hS | hS | hS | hS
  · have hr : ro (ta t) = 2 := by rw [hro, hS]
    refine ol_callU (As := []) (owner := "ObjectLoads$Thing") (x := ⟨"ObjectLoads$Node", "toldValue", "()I"⟩) C (x_toldValue9 l D cA ht) h0 (show ol_ct (ro (ta t)) = .inl 1 by rw [hr]; rfl) rfl wd_413 wd_5 hlink wd_395 (by decide) wd_412 wd_408 mhu_ObjectLoads_Node_toldValue (ol_rm_le hR (by decide) (by decide)) rfl hW hdg (ol_xi ?_)
    rw [show I (ta t) 3 = sp_vv So T t from by rw [e3]; unfold sp_vv; rw [ol_if_f (P := So t = 3) (by omega), ol_if_f (P := So t = 1) (by omega), ol_if_f (P := So t = 4) (by omega)]]
    exact kk
  · have hr : ro (ta t) = 3 := by rw [hro, hS]
    refine ol_callU (As := []) (owner := "ObjectLoads$Thing") (x := ⟨"ObjectLoads$Node", "toldValue", "()I"⟩) C (x_toldValue2 l D cA ht) h0 (show ol_ct (ro (ta t)) = .inl 2 by rw [hr]; rfl) rfl wd_402 wd_7 hlink wd_395 (by decide) wd_401 wd_400 mhu_ObjectLoads_Node_toldValue (ol_rm_le hR (by decide) (by decide)) rfl hW hdg (ol_xi ?_)
    rw [show 2 * I (ta t) 3 = sp_vv So T t from by rw [e3]; unfold sp_vv; rw [ol_if_f (P := So t = 3) (by omega), ol_if_t (P := So t = 1) (by omega)]]
    exact kk
  · have hr : ro (ta t) = 5 := by rw [hro, hS]
    refine ol_callU (As := []) (owner := "ObjectLoads$Thing") (x := ⟨"ObjectLoads$Node", "toldValue", "()I"⟩) C (x_toldValue1 l D cA ht) h0 (show ol_ct (ro (ta t)) = .inl 4 by rw [hr]; rfl) rfl wd_399 wd_10 hlink wd_395 (by decide) wd_398 wd_397 mhu_ObjectLoads_Node_toldValue (ol_rm_le hR (by decide) (by decide)) rfl hW hdg (ol_xi ?_)
    rw [show ol_if (I (ta t) 3 = 0) 0 (100 / I (ta t) 3) = sp_vv So T t from by rw [e3]; unfold sp_vv; rw [ol_if_t (P := So t = 3) (by omega)]]
    exact kk
  · have hr : ro (ta t) = 6 := by rw [hro, hS]
    refine ol_callU (As := []) (owner := "ObjectLoads$Thing") (x := ⟨"ObjectLoads$Node", "toldValue", "()I"⟩) C (x_toldValue5 l D cA ht hr) h0 (show ol_ct (ro (ta t)) = .inl 5 by rw [hr]; rfl) rfl wd_406 wd_11 hlink wd_395 (by decide) wd_405 wd_404 mhu_ObjectLoads_Node_toldValue (ol_rm_le hR (by decide) (by decide)) rfl hW hdg (ol_xi ?_)
    rw [show 2 * I (ta t) 3 + 1 = sp_vv So T t from by rw [e3]; unfold sp_vv; rw [ol_if_f (P := So t = 3) (by omega), ol_if_f (P := So t = 1) (by omega), ol_if_t (P := So t = 4) (by omega)]]
    exact kk
  · have hr : ro (ta t) = 7 := by rw [hro, hS]
    refine ol_callU (As := []) (owner := "ObjectLoads$Thing") (x := ⟨"ObjectLoads$Node", "toldValue", "()I"⟩) C (x_toldValue8 l D cA ht) h0 (show ol_ct (ro (ta t)) = .inl 6 by rw [hr]; rfl) rfl wd_411 wd_12 hlink wd_395 (by decide) wd_410 wd_409 mhu_ObjectLoads_Node_toldValue (ol_rm_le hR (by decide) (by decide)) rfl hW hdg (ol_xi ?_)
    rw [show I (ta t) 3 = sp_vv So T t from by rw [e3]; unfold sp_vv; rw [ol_if_f (P := So t = 3) (by omega), ol_if_f (P := So t = 1) (by omega), ol_if_f (P := So t = 4) (by omega)]]
    exact kk
  · have hr : ro (ta t) = 8 := by rw [hro, hS]
    refine ol_callU (As := []) (owner := "ObjectLoads$Thing") (x := ⟨"ObjectLoads$Node", "toldValue", "()I"⟩) C (x_toldValue9 l D cA ht) h0 (show ol_ct (ro (ta t)) = .inl 7 by rw [hr]; rfl) rfl wd_413 wd_5 hlink wd_395 (by decide) wd_412 wd_403 mhu_ObjectLoads_Node_toldValue (ol_rm_le hR (by decide) (by decide)) rfl hW hdg (ol_xi ?_)
    rw [show I (ta t) 3 = sp_vv So T t from by rw [e3]; unfold sp_vv; rw [ol_if_f (P := So t = 3) (by omega), ol_if_f (P := So t = 1) (by omega), ol_if_f (P := So t = 4) (by omega)]]
    exact kk

set_option maxRecDepth 100000 in
set_option maxHeartbeats 4000000 in
theorem dv_linksCause_Node {ad ta pa : Nat → Nat} {n t index : Nat} {So : Nat → Nat} {T : Nat → Nat → Int32} {P : Nat → Nat → Option Nat} (C : ol_Cx p s m args c cc nL "ObjectLoads" D cA A) (hX : ol_XT ro I F ad ta pa n So T P) (hV : ol_V n So T P) (htn : t < n) (hnb : ¬ So t = 2) (hlink : Cond.methodLink "ObjectLoads" index ⟨"ObjectLoads$Node", "linksCause", "()I"⟩ ∈ ol_all) (hR : ol_rm R (ol_r 2 0 0) 2 cells slots) (hW : (rest.map fun v => v.category).sum ≤ 8) (hdg : decode cc pc = .ok (.invokevirtual index, 3)) (kk : ol_W p l e R s m args below meth c D cA A Q nL ro I F cells slots (pc + 3) lv (.int (sp_lc So T P t) :: rest)) : ol_W p l e R s m args below meth c D cA A Q nL ro I F cells slots pc lv (.ref (ta t) :: rest) := by
  have h6 := (hV.2 t htn).1
  have hx := (hX.2.1 t htn).2
  have ht := hx.th h6
  obtain ⟨hro, -, e2, e3, e5, -, hpl, -, e4, ep⟩ := id hx
  have hps := hx.ps
  have hp0 := (hV.2 t htn).2.2 0 (by decide)
  have hpq : ∀ i, i < 6 → ∀ u, P (1 + i) t = some u → u < n := fun i hi => (hV.2 t htn).2.2 (1 + i) (by omega)
  have hnx : ∀ b, F (ta t) 4 = some b → ol_th ro b := by rw [e4]; exact hX.rth hV hp0
  have hpt : ∀ i, i < 6 → ∀ b, F (pa t) i = some b → ol_th ro b := fun i hi => by rw [ep i hi]; exact hX.rth hV (hpq i hi)
  have h0 : ro (ta t) ≠ 0 := by rw [hro]; omega
  have hsr : So t = 0 ∨ So t = 1 ∨ So t = 3 ∨ So t = 4 ∨ So t = 5 ∨ So t = 6 := by omega
  rcases hsr with hS | hS | hS | hS | hS | hS
  · have hr : ro (ta t) = 2 := by rw [hro, hS]
    refine ol_callU (As := []) (owner := "ObjectLoads$Thing") (x := ⟨"ObjectLoads$Node", "linksCause", "()I"⟩) C (x_linksCause7 l D cA ht hnx) h0 (show ol_ct (ro (ta t)) = .inl 1 by rw [hr]; rfl) rfl wd_423 wd_9 hlink wd_419 (by decide) wd_422 wd_431 mhu_ObjectLoads_Node_linksCause (ol_rm_le hR (by decide) (by decide)) rfl hW hdg (ol_xi ?_)
    rw [show ol_if (∃ b, F (ta t) 4 = some b ∧ ro b = 4) (3 : Int32) 0 = sp_lc So T P t from by rw [e4, propext (hX.rbr hp0)]; unfold sp_lc; rw [ol_if_f (P := So t = 5) (by omega), ol_if_f (P := So t = 1 ∨ So t = 4) (by omega)]]
    exact kk
  · have hr : ro (ta t) = 3 := by rw [hro, hS]
    refine ol_callU (As := []) (owner := "ObjectLoads$Thing") (x := ⟨"ObjectLoads$Node", "linksCause", "()I"⟩) C (x_linksCause9 l D cA ht) h0 (show ol_ct (ro (ta t)) = .inl 2 by rw [hr]; rfl) rfl wd_437 wd_5 hlink wd_419 (by decide) wd_436 wd_425 mhu_ObjectLoads_Node_linksCause (ol_rm_le hR (by decide) (by decide)) rfl hW hdg (ol_xi ?_)
    rw [show (0 : Int32) = sp_lc So T P t from by unfold sp_lc; rw [ol_if_f (P := So t = 5) (by omega), ol_if_t (P := So t = 1 ∨ So t = 4) (by omega), ol_if_f (P := So t = 4 ∧ ∃ i, i < 6 ∧ ol_br So (P (1 + i) t)) (fun q => by omega)]]
    exact kk
  · have hr : ro (ta t) = 5 := by rw [hro, hS]
    refine ol_callU (As := []) (owner := "ObjectLoads$Thing") (x := ⟨"ObjectLoads$Node", "linksCause", "()I"⟩) C (x_linksCause7 l D cA ht hnx) h0 (show ol_ct (ro (ta t)) = .inl 4 by rw [hr]; rfl) rfl wd_423 wd_9 hlink wd_419 (by decide) wd_422 wd_421 mhu_ObjectLoads_Node_linksCause (ol_rm_le hR (by decide) (by decide)) rfl hW hdg (ol_xi ?_)
    rw [show ol_if (∃ b, F (ta t) 4 = some b ∧ ro b = 4) (3 : Int32) 0 = sp_lc So T P t from by rw [e4, propext (hX.rbr hp0)]; unfold sp_lc; rw [ol_if_f (P := So t = 5) (by omega), ol_if_f (P := So t = 1 ∨ So t = 4) (by omega)]]
    exact kk
  · have hr : ro (ta t) = 6 := by rw [hro, hS]
    refine ol_callU (As := []) (owner := "ObjectLoads$Thing") (x := ⟨"ObjectLoads$Node", "linksCause", "()I"⟩) C (x_linksCause5 l D cA ht hpl hps hpt) h0 (show ol_ct (ro (ta t)) = .inl 5 by rw [hr]; rfl) rfl wd_429 wd_11 hlink wd_419 (by decide) wd_428 wd_427 mhu_ObjectLoads_Node_linksCause (ol_rm_le hR (by decide) (by decide)) rfl hW hdg (ol_xi ?_)
    rw [show ol_if (∃ i, i < 6 ∧ ol_bq ro (F (pa t) i)) (3 : Int32) 0 = sp_lc So T P t from by unfold sp_lc; rw [ol_if_f (P := So t = 5) (by omega), ol_if_t (P := So t = 1 ∨ So t = 4) (by omega)]; exact congrArg (fun z => ol_if z (3 : Int32) 0) (propext ⟨fun ⟨i, h1, h2⟩ => ⟨hS, i, h1, (hX.rbr (hpq i h1)).mp (by rw [ep i h1] at h2; exact h2)⟩, fun ⟨_, i, h1, h2⟩ => ⟨i, h1, by rw [ep i h1]; exact (hX.rbr (hpq i h1)).mpr h2⟩⟩)]
    exact kk
  · have hr : ro (ta t) = 7 := by rw [hro, hS]
    refine ol_callU (As := []) (owner := "ObjectLoads$Thing") (x := ⟨"ObjectLoads$Node", "linksCause", "()I"⟩) C (x_linksCause8 l D cA ht) h0 (show ol_ct (ro (ta t)) = .inl 6 by rw [hr]; rfl) rfl wd_434 wd_12 hlink wd_419 (by decide) wd_433 wd_432 mhu_ObjectLoads_Node_linksCause (ol_rm_le hR (by decide) (by decide)) rfl hW hdg (ol_xi ?_)
    rw [show ol_if (ol_k 6 (I (ta t) 3)) (0 : Int32) 2 = sp_lc So T P t from by rw [e3]; unfold sp_lc; rw [ol_if_t (P := So t = 5) (by omega)]]
    exact kk
  · have hr : ro (ta t) = 8 := by rw [hro, hS]
    refine ol_callU (As := []) (owner := "ObjectLoads$Thing") (x := ⟨"ObjectLoads$Node", "linksCause", "()I"⟩) C (x_linksCause7 l D cA ht hnx) h0 (show ol_ct (ro (ta t)) = .inl 7 by rw [hr]; rfl) rfl wd_423 wd_9 hlink wd_419 (by decide) wd_422 wd_426 mhu_ObjectLoads_Node_linksCause (ol_rm_le hR (by decide) (by decide)) rfl hW hdg (ol_xi ?_)
    rw [show ol_if (∃ b, F (ta t) 4 = some b ∧ ro b = 4) (3 : Int32) 0 = sp_lc So T P t from by rw [e4, propext (hX.rbr hp0)]; unfold sp_lc; rw [ol_if_f (P := So t = 5) (by omega), ol_if_f (P := So t = 1 ∨ So t = 4) (by omega)]]
    exact kk

set_option maxRecDepth 100000 in
set_option maxHeartbeats 4000000 in
theorem dv_linkCount_Node {ad ta pa : Nat → Nat} {n t index : Nat} {So : Nat → Nat} {T : Nat → Nat → Int32} {P : Nat → Nat → Option Nat} (C : ol_Cx p s m args c cc nL "ObjectLoads" D cA A) (hX : ol_XT ro I F ad ta pa n So T P) (hV : ol_V n So T P) (htn : t < n) (hnb : ¬ So t = 2) (hlink : Cond.methodLink "ObjectLoads" index ⟨"ObjectLoads$Node", "linkCount", "()I"⟩ ∈ ol_all) (hR : ol_rm R (ol_r 2 0 0) 2 cells slots) (hW : (rest.map fun v => v.category).sum ≤ 8) (hdg : decode cc pc = .ok (.invokevirtual index, 3)) (kk : ol_W p l e R s m args below meth c D cA A Q nL ro I F cells slots (pc + 3) lv (.int (nI (sp_ln So P t)) :: rest)) : ol_W p l e R s m args below meth c D cA A Q nL ro I F cells slots pc lv (.ref (ta t) :: rest) := by
  have h6 := (hV.2 t htn).1
  have hx := (hX.2.1 t htn).2
  have ht := hx.th h6
  obtain ⟨hro, -, e2, e3, e5, -, hpl, -, e4, ep⟩ := id hx
  have hps := hx.ps
  have hp0 := (hV.2 t htn).2.2 0 (by decide)
  have hpq : ∀ i, i < 6 → ∀ u, P (1 + i) t = some u → u < n := fun i hi => (hV.2 t htn).2.2 (1 + i) (by omega)
  have hnx : ∀ b, F (ta t) 4 = some b → ol_th ro b := by rw [e4]; exact hX.rth hV hp0
  have hpt : ∀ i, i < 6 → ∀ b, F (pa t) i = some b → ol_th ro b := fun i hi => by rw [ep i hi]; exact hX.rth hV (hpq i hi)
  have h0 : ro (ta t) ≠ 0 := by rw [hro]; omega
  have hsr : So t = 0 ∨ So t = 1 ∨ So t = 3 ∨ So t = 4 ∨ So t = 5 ∨ So t = 6 := by omega
  rcases hsr with hS | hS | hS | hS | hS | hS
  · have hr : ro (ta t) = 2 := by rw [hro, hS]
    refine ol_callU (As := []) (owner := "ObjectLoads$Thing") (x := ⟨"ObjectLoads$Node", "linkCount", "()I"⟩) C (x_linkCount7 l D cA ht) h0 (show ol_ct (ro (ta t)) = .inl 1 by rw [hr]; rfl) rfl wd_443 wd_9 hlink wd_439 (by decide) wd_442 wd_449 mhu_ObjectLoads_Node_linkCount (ol_rm_le hR (by decide) (by decide)) rfl hW hdg (ol_xi ?_)
    have eqq : ol_if (F (ta t) 4 = none) (0 : Int32) 1 = nI (sp_ln So P t) := by
      unfold sp_ln
      rw [ol_if_f (P := So t = 5) (by omega), ol_if_f (P := So t = 1 ∨ So t = 4) (by omega), e4]
      by_cases h : P 0 t = none
      · rw [ol_if_t (P := (P 0 t).map ta = none) (by rw [h]; rfl), ol_if_t (P := P 0 t = none) h]
        rfl
      · rw [ol_if_f (P := (P 0 t).map ta = none) (fun q => by cases hq : P 0 t with | none => exact h hq | some u => rw [hq] at q; cases q), ol_if_f (P := P 0 t = none) h]
        rfl
    rw [eqq]
    exact kk
  · have hr : ro (ta t) = 3 := by rw [hro, hS]
    refine ol_callU (As := []) (owner := "ObjectLoads$Thing") (x := ⟨"ObjectLoads$Node", "linkCount", "()I"⟩) C (x_linkCount2 l D cA ht) h0 (show ol_ct (ro (ta t)) = .inl 2 by rw [hr]; rfl) rfl wd_446 wd_7 hlink wd_439 (by decide) wd_445 wd_444 mhu_ObjectLoads_Node_linkCount (ol_rm_le hR (by decide) (by decide)) rfl hW hdg (ol_xi ?_)
    rw [show (6 : Int32) = nI (sp_ln So P t) from by unfold sp_ln; rw [ol_if_f (P := So t = 5) (by omega), ol_if_t (P := So t = 1 ∨ So t = 4) (by omega)]; rfl]
    exact kk
  · have hr : ro (ta t) = 5 := by rw [hro, hS]
    refine ol_callU (As := []) (owner := "ObjectLoads$Thing") (x := ⟨"ObjectLoads$Node", "linkCount", "()I"⟩) C (x_linkCount7 l D cA ht) h0 (show ol_ct (ro (ta t)) = .inl 4 by rw [hr]; rfl) rfl wd_443 wd_9 hlink wd_439 (by decide) wd_442 wd_441 mhu_ObjectLoads_Node_linkCount (ol_rm_le hR (by decide) (by decide)) rfl hW hdg (ol_xi ?_)
    have eqq : ol_if (F (ta t) 4 = none) (0 : Int32) 1 = nI (sp_ln So P t) := by
      unfold sp_ln
      rw [ol_if_f (P := So t = 5) (by omega), ol_if_f (P := So t = 1 ∨ So t = 4) (by omega), e4]
      by_cases h : P 0 t = none
      · rw [ol_if_t (P := (P 0 t).map ta = none) (by rw [h]; rfl), ol_if_t (P := P 0 t = none) h]
        rfl
      · rw [ol_if_f (P := (P 0 t).map ta = none) (fun q => by cases hq : P 0 t with | none => exact h hq | some u => rw [hq] at q; cases q), ol_if_f (P := P 0 t = none) h]
        rfl
    rw [eqq]
    exact kk
  · have hr : ro (ta t) = 6 := by rw [hro, hS]
    refine ol_callU (As := []) (owner := "ObjectLoads$Thing") (x := ⟨"ObjectLoads$Node", "linkCount", "()I"⟩) C (x_linkCount2 l D cA ht) h0 (show ol_ct (ro (ta t)) = .inl 5 by rw [hr]; rfl) rfl wd_446 wd_7 hlink wd_439 (by decide) wd_445 wd_448 mhu_ObjectLoads_Node_linkCount (ol_rm_le hR (by decide) (by decide)) rfl hW hdg (ol_xi ?_)
    rw [show (6 : Int32) = nI (sp_ln So P t) from by unfold sp_ln; rw [ol_if_f (P := So t = 5) (by omega), ol_if_t (P := So t = 1 ∨ So t = 4) (by omega)]; rfl]
    exact kk
  · have hr : ro (ta t) = 7 := by rw [hro, hS]
    refine ol_callU (As := []) (owner := "ObjectLoads$Thing") (x := ⟨"ObjectLoads$Node", "linkCount", "()I"⟩) C (x_linkCount8 l D cA ht) h0 (show ol_ct (ro (ta t)) = .inl 6 by rw [hr]; rfl) rfl wd_452 wd_12 hlink wd_439 (by decide) wd_451 wd_450 mhu_ObjectLoads_Node_linkCount (ol_rm_le hR (by decide) (by decide)) rfl hW hdg (ol_xi ?_)
    rw [show (1 : Int32) = nI (sp_ln So P t) from by unfold sp_ln; rw [ol_if_t (P := So t = 5) (by omega)]; rfl]
    exact kk
  · have hr : ro (ta t) = 8 := by rw [hro, hS]
    refine ol_callU (As := []) (owner := "ObjectLoads$Thing") (x := ⟨"ObjectLoads$Node", "linkCount", "()I"⟩) C (x_linkCount7 l D cA ht) h0 (show ol_ct (ro (ta t)) = .inl 7 by rw [hr]; rfl) rfl wd_443 wd_9 hlink wd_439 (by decide) wd_442 wd_447 mhu_ObjectLoads_Node_linkCount (ol_rm_le hR (by decide) (by decide)) rfl hW hdg (ol_xi ?_)
    have eqq : ol_if (F (ta t) 4 = none) (0 : Int32) 1 = nI (sp_ln So P t) := by
      unfold sp_ln
      rw [ol_if_f (P := So t = 5) (by omega), ol_if_f (P := So t = 1 ∨ So t = 4) (by omega), e4]
      by_cases h : P 0 t = none
      · rw [ol_if_t (P := (P 0 t).map ta = none) (by rw [h]; rfl), ol_if_t (P := P 0 t = none) h]
        rfl
      · rw [ol_if_f (P := (P 0 t).map ta = none) (fun q => by cases hq : P 0 t with | none => exact h hq | some u => rw [hq] at q; cases q), ol_if_f (P := P 0 t = none) h]
        rfl
    rw [eqq]
    exact kk

set_option maxRecDepth 100000 in
set_option maxHeartbeats 4000000 in
theorem dv_link_Node {ad ta pa : Nat → Nat} {n t index : Nat} {So : Nat → Nat} {T : Nat → Nat → Int32} {P : Nat → Nat → Option Nat} (C : ol_Cx p s m args c cc nL "ObjectLoads" D cA A) (hX : ol_XT ro I F ad ta pa n So T P) (hV : ol_V n So T P) (htn : t < n) (hnb : ¬ So t = 2) {i : Nat} (hc : sp_lc So T P t = 0) (hi : i < sp_ln So P t) (hlink : Cond.methodLink "ObjectLoads" index ⟨"ObjectLoads$Node", "link", "(I)LObjectLoads$Thing;"⟩ ∈ ol_all) (hR : ol_rm R (ol_r 2 0 0) 2 cells slots) (hW : (rest.map fun v => v.category).sum ≤ 8) (hdg : decode cc pc = .ok (.invokevirtual index, 3)) (kk : ol_W p l e R s m args below meth c D cA A Q nL ro I F cells slots (pc + 3) lv (va_rf ((sp_lk So T P t i).map ta) :: rest)) : ol_W p l e R s m args below meth c D cA A Q nL ro I F cells slots pc lv (.int (nI i) :: .ref (ta t) :: rest) := by
  have h6 := (hV.2 t htn).1
  have hx := (hX.2.1 t htn).2
  have ht := hx.th h6
  obtain ⟨hro, -, e2, e3, e5, -, hpl, -, e4, ep⟩ := id hx
  have hps := hx.ps
  have hp0 := (hV.2 t htn).2.2 0 (by decide)
  have hpq : ∀ i, i < 6 → ∀ u, P (1 + i) t = some u → u < n := fun i hi => (hV.2 t htn).2.2 (1 + i) (by omega)
  have hnx : ∀ b, F (ta t) 4 = some b → ol_th ro b := by rw [e4]; exact hX.rth hV hp0
  have hpt : ∀ i, i < 6 → ∀ b, F (pa t) i = some b → ol_th ro b := fun i hi => by rw [ep i hi]; exact hX.rth hV (hpq i hi)
  have h0 : ro (ta t) ≠ 0 := by rw [hro]; omega
  have hsr : So t = 0 ∨ So t = 1 ∨ So t = 3 ∨ So t = 4 ∨ So t = 5 ∨ So t = 6 := by omega
  rcases hsr with hS | hS | hS | hS | hS | hS
  · have hr : ro (ta t) = 2 := by rw [hro, hS]
    refine ol_callU (As := [.int (nI i)]) (owner := "ObjectLoads$Node") (x := ⟨"ObjectLoads$Node", "link", "(I)LObjectLoads$Thing;"⟩) C (x_link7 l D cA ht (nI i)) h0 (show ol_ct (ro (ta t)) = .inl 1 by rw [hr]; rfl) rfl wd_458 wd_9 hlink wd_455 (by decide) wd_457 wd_465 mhu_ObjectLoads_Node_link (ol_rm_le hR (by decide) (by decide)) rfl hW hdg (ol_xq ?_)
    rw [show F (ta t) 4 = (sp_lk So T P t i).map ta from by rw [e4]; unfold sp_lk; rw [ol_if_f (P := So t = 5) (by omega), ol_if_f (P := So t = 1 ∨ So t = 4) (by omega)]]
    exact kk
  · have hr : ro (ta t) = 3 := by rw [hro, hS]
    refine ol_callU (As := [.int (nI i)]) (owner := "ObjectLoads$Node") (x := ⟨"ObjectLoads$Node", "link", "(I)LObjectLoads$Thing;"⟩) C (x_link2 l D cA ht hpl hps (nI i)) h0 (show ol_ct (ro (ta t)) = .inl 2 by rw [hr]; rfl) rfl wd_461 wd_7 hlink wd_455 (by decide) wd_460 wd_459 mhu_ObjectLoads_Node_link (ol_rm_le hR (by decide) (by decide)) rfl hW hdg (ol_xq ?_)
    have hi6 : i < 6 := by
      unfold sp_ln at hi
      rw [ol_if_f (P := So t = 5) (by omega), ol_if_t (P := So t = 1 ∨ So t = 4) (by omega)] at hi
      exact hi
    have eqq : ol_if (ol_k 6 (nI i)) (F (pa t) (nI i).toNatClampNeg) none = (sp_lk So T P t i).map ta := by
      rw [ol_if_t (ol_k_nI (by decide) hi6), nI_clamp (by omega), ep i hi6]
      unfold sp_lk
      rw [ol_if_f (P := So t = 5) (by omega), ol_if_t (P := So t = 1 ∨ So t = 4) (by omega)]
    rw [eqq]
    exact kk
  · have hr : ro (ta t) = 5 := by rw [hro, hS]
    refine ol_callU (As := [.int (nI i)]) (owner := "ObjectLoads$Node") (x := ⟨"ObjectLoads$Node", "link", "(I)LObjectLoads$Thing;"⟩) C (x_link7 l D cA ht (nI i)) h0 (show ol_ct (ro (ta t)) = .inl 4 by rw [hr]; rfl) rfl wd_458 wd_9 hlink wd_455 (by decide) wd_457 wd_456 mhu_ObjectLoads_Node_link (ol_rm_le hR (by decide) (by decide)) rfl hW hdg (ol_xq ?_)
    rw [show F (ta t) 4 = (sp_lk So T P t i).map ta from by rw [e4]; unfold sp_lk; rw [ol_if_f (P := So t = 5) (by omega), ol_if_f (P := So t = 1 ∨ So t = 4) (by omega)]]
    exact kk
  · have hr : ro (ta t) = 6 := by rw [hro, hS]
    refine ol_callU (As := [.int (nI i)]) (owner := "ObjectLoads$Node") (x := ⟨"ObjectLoads$Node", "link", "(I)LObjectLoads$Thing;"⟩) C (x_link2 l D cA ht hpl hps (nI i)) h0 (show ol_ct (ro (ta t)) = .inl 5 by rw [hr]; rfl) rfl wd_461 wd_7 hlink wd_455 (by decide) wd_460 wd_464 mhu_ObjectLoads_Node_link (ol_rm_le hR (by decide) (by decide)) rfl hW hdg (ol_xq ?_)
    have hi6 : i < 6 := by
      unfold sp_ln at hi
      rw [ol_if_f (P := So t = 5) (by omega), ol_if_t (P := So t = 1 ∨ So t = 4) (by omega)] at hi
      exact hi
    have eqq : ol_if (ol_k 6 (nI i)) (F (pa t) (nI i).toNatClampNeg) none = (sp_lk So T P t i).map ta := by
      rw [ol_if_t (ol_k_nI (by decide) hi6), nI_clamp (by omega), ep i hi6]
      unfold sp_lk
      rw [ol_if_f (P := So t = 5) (by omega), ol_if_t (P := So t = 1 ∨ So t = 4) (by omega)]
    rw [eqq]
    exact kk
  · have hr : ro (ta t) = 7 := by rw [hro, hS]
    refine ol_callU (As := [.int (nI i)]) (owner := "ObjectLoads$Node") (x := ⟨"ObjectLoads$Node", "link", "(I)LObjectLoads$Thing;"⟩) C (x_link8 l D cA ht hpl hps hr (nI i)) h0 (show ol_ct (ro (ta t)) = .inl 6 by rw [hr]; rfl) rfl wd_468 wd_12 hlink wd_455 (by decide) wd_467 wd_466 mhu_ObjectLoads_Node_link (ol_rm_le hR (by decide) (by decide)) rfl hW hdg (ol_xq ?_)
    have hk : ol_k 6 (T 2 t) := by
      unfold sp_lc at hc
      rw [ol_if_t (P := So t = 5) (by omega)] at hc
      exact Classical.byContradiction (fun q => by rw [ol_if_f q] at hc; exact absurd hc (by decide))
    obtain ⟨v, hv, ev, hv31⟩ := ol_k_ix hk (by omega)
    have eqq : ol_if (ol_k 6 (I (ta t) 3)) (F (pa t) (I (ta t) 3).toNatClampNeg) none = (sp_lk So T P t i).map ta := by
      unfold sp_lk
      rw [e3, ol_if_t hk, ol_if_t (P := So t = 5) (by omega), ev, nI_clamp hv31, ep v hv]
    rw [eqq]
    exact kk
  · have hr : ro (ta t) = 8 := by rw [hro, hS]
    refine ol_callU (As := [.int (nI i)]) (owner := "ObjectLoads$Node") (x := ⟨"ObjectLoads$Node", "link", "(I)LObjectLoads$Thing;"⟩) C (x_link7 l D cA ht (nI i)) h0 (show ol_ct (ro (ta t)) = .inl 7 by rw [hr]; rfl) rfl wd_458 wd_9 hlink wd_455 (by decide) wd_457 wd_463 mhu_ObjectLoads_Node_link (ol_rm_le hR (by decide) (by decide)) rfl hW hdg (ol_xq ?_)
    rw [show F (ta t) 4 = (sp_lk So T P t i).map ta from by rw [e4]; unfold sp_lk; rw [ol_if_f (P := So t = 5) (by omega), ol_if_f (P := So t = 1 ∨ So t = 4) (by omega)]]
    exact kk

set_option maxRecDepth 100000 in
set_option maxHeartbeats 4000000 in
theorem dv_keyCause_Thing {ad ta pa : Nat → Nat} {n t index : Nat} {So : Nat → Nat} {T : Nat → Nat → Int32} {P : Nat → Nat → Option Nat} (C : ol_Cx p s m args c cc nL "ObjectLoads" D cA A) (hX : ol_XT ro I F ad ta pa n So T P) (hV : ol_V n So T P) (htn : t < n) (hnb : ¬ So t = 2) (hlink : Cond.methodLink "ObjectLoads" index ⟨"ObjectLoads$Thing", "keyCause", "()I"⟩ ∈ ol_all) (hR : ol_rm R (ol_r 2 0 0) 2 cells slots) (hW : (rest.map fun v => v.category).sum ≤ 8) (hdg : decode cc pc = .ok (.invokevirtual index, 3)) (kk : ol_W p l e R s m args below meth c D cA A Q nL ro I F cells slots (pc + 3) lv (.int (sp_kc So T t) :: rest)) : ol_W p l e R s m args below meth c D cA A Q nL ro I F cells slots pc lv (.ref (ta t) :: rest) := by
  have h6 := (hV.2 t htn).1
  have hx := (hX.2.1 t htn).2
  have ht := hx.th h6
  obtain ⟨hro, -, e2, e3, e5, -, hpl, -, e4, ep⟩ := id hx
  have hps := hx.ps
  have hp0 := (hV.2 t htn).2.2 0 (by decide)
  have hpq : ∀ i, i < 6 → ∀ u, P (1 + i) t = some u → u < n := fun i hi => (hV.2 t htn).2.2 (1 + i) (by omega)
  have hnx : ∀ b, F (ta t) 4 = some b → ol_th ro b := by rw [e4]; exact hX.rth hV hp0
  have hpt : ∀ i, i < 6 → ∀ b, F (pa t) i = some b → ol_th ro b := fun i hi => by rw [ep i hi]; exact hX.rth hV (hpq i hi)
  have h0 : ro (ta t) ≠ 0 := by rw [hro]; omega
  have hsr : So t = 0 ∨ So t = 1 ∨ So t = 3 ∨ So t = 4 ∨ So t = 5 ∨ So t = 6 := by omega
  rcases hsr with hS | hS | hS | hS | hS | hS
  · have hr : ro (ta t) = 2 := by rw [hro, hS]
    refine ol_callU (As := []) (owner := "ObjectLoads$Thing") (x := ⟨"ObjectLoads$Thing", "keyCause", "()I"⟩) C (x_keyCause9 l D cA ht) h0 (show ol_ct (ro (ta t)) = .inl 1 by rw [hr]; rfl) rfl wd_361 wd_5 hlink wd_818 (by decide) wd_360 wd_824 mhu_ObjectLoads_Thing_keyCause (ol_rm_le hR (by decide) (by decide)) rfl hW hdg (ol_xi ?_)
    rw [show (0 : Int32) = sp_kc So T t from (ol_p_f (fun q => by omega)).symm]
    exact kk
  · have hr : ro (ta t) = 3 := by rw [hro, hS]
    refine ol_callU (As := []) (owner := "ObjectLoads$Thing") (x := ⟨"ObjectLoads$Thing", "keyCause", "()I"⟩) C (x_keyCause9 l D cA ht) h0 (show ol_ct (ro (ta t)) = .inl 2 by rw [hr]; rfl) rfl wd_361 wd_5 hlink wd_818 (by decide) wd_360 wd_821 mhu_ObjectLoads_Thing_keyCause (ol_rm_le hR (by decide) (by decide)) rfl hW hdg (ol_xi ?_)
    rw [show (0 : Int32) = sp_kc So T t from (ol_p_f (fun q => by omega)).symm]
    exact kk
  · have hr : ro (ta t) = 5 := by rw [hro, hS]
    refine ol_callU (As := []) (owner := "ObjectLoads$Thing") (x := ⟨"ObjectLoads$Thing", "keyCause", "()I"⟩) C (x_keyCause9 l D cA ht) h0 (show ol_ct (ro (ta t)) = .inl 4 by rw [hr]; rfl) rfl wd_361 wd_5 hlink wd_818 (by decide) wd_360 wd_820 mhu_ObjectLoads_Thing_keyCause (ol_rm_le hR (by decide) (by decide)) rfl hW hdg (ol_xi ?_)
    rw [show (0 : Int32) = sp_kc So T t from (ol_p_f (fun q => by omega)).symm]
    exact kk
  · have hr : ro (ta t) = 6 := by rw [hro, hS]
    refine ol_callU (As := []) (owner := "ObjectLoads$Thing") (x := ⟨"ObjectLoads$Thing", "keyCause", "()I"⟩) C (x_keyCause9 l D cA ht) h0 (show ol_ct (ro (ta t)) = .inl 5 by rw [hr]; rfl) rfl wd_361 wd_5 hlink wd_818 (by decide) wd_360 wd_823 mhu_ObjectLoads_Thing_keyCause (ol_rm_le hR (by decide) (by decide)) rfl hW hdg (ol_xi ?_)
    rw [show (0 : Int32) = sp_kc So T t from (ol_p_f (fun q => by omega)).symm]
    exact kk
  · have hr : ro (ta t) = 7 := by rw [hro, hS]
    refine ol_callU (As := []) (owner := "ObjectLoads$Thing") (x := ⟨"ObjectLoads$Thing", "keyCause", "()I"⟩) C (x_keyCause9 l D cA ht) h0 (show ol_ct (ro (ta t)) = .inl 6 by rw [hr]; rfl) rfl wd_361 wd_5 hlink wd_818 (by decide) wd_360 wd_825 mhu_ObjectLoads_Thing_keyCause (ol_rm_le hR (by decide) (by decide)) rfl hW hdg (ol_xi ?_)
    rw [show (0 : Int32) = sp_kc So T t from (ol_p_f (fun q => by omega)).symm]
    exact kk
  · have hr : ro (ta t) = 8 := by rw [hro, hS]
    refine ol_callU (As := []) (owner := "ObjectLoads$Thing") (x := ⟨"ObjectLoads$Thing", "keyCause", "()I"⟩) C (x_keyCause3 l D cA ht) h0 (show ol_ct (ro (ta t)) = .inl 7 by rw [hr]; rfl) rfl wd_356 wd_13 hlink wd_818 (by decide) wd_355 wd_822 mhu_ObjectLoads_Thing_keyCause (ol_rm_le hR (by decide) (by decide)) rfl hW hdg (ol_xi ?_)
    rw [show ol_p (I (ta t) 5 = 0) = sp_kc So T t from ol_p_c (by rw [e5]; exact ⟨fun q => ⟨hS, q⟩, fun q => q.2⟩)]
    exact kk

set_option maxRecDepth 100000 in
set_option maxHeartbeats 4000000 in
theorem dv_toldKey_Thing {ad ta pa : Nat → Nat} {n t index : Nat} {So : Nat → Nat} {T : Nat → Nat → Int32} {P : Nat → Nat → Option Nat} (C : ol_Cx p s m args c cc nL "ObjectLoads" D cA A) (hX : ol_XT ro I F ad ta pa n So T P) (hV : ol_V n So T P) (htn : t < n) (hnb : ¬ So t = 2) (hlink : Cond.methodLink "ObjectLoads" index ⟨"ObjectLoads$Thing", "toldKey", "()I"⟩ ∈ ol_all) (hR : ol_rm R (ol_r 2 0 0) 2 cells slots) (hW : (rest.map fun v => v.category).sum ≤ 8) (hdg : decode cc pc = .ok (.invokevirtual index, 3)) (kk : ol_W p l e R s m args below meth c D cA A Q nL ro I F cells slots (pc + 3) lv (.int (T 1 t) :: rest)) : ol_W p l e R s m args below meth c D cA A Q nL ro I F cells slots pc lv (.ref (ta t) :: rest) := by
  have h6 := (hV.2 t htn).1
  have hx := (hX.2.1 t htn).2
  have ht := hx.th h6
  obtain ⟨hro, -, e2, e3, e5, -, hpl, -, e4, ep⟩ := id hx
  have hps := hx.ps
  have hp0 := (hV.2 t htn).2.2 0 (by decide)
  have hpq : ∀ i, i < 6 → ∀ u, P (1 + i) t = some u → u < n := fun i hi => (hV.2 t htn).2.2 (1 + i) (by omega)
  have hnx : ∀ b, F (ta t) 4 = some b → ol_th ro b := by rw [e4]; exact hX.rth hV hp0
  have hpt : ∀ i, i < 6 → ∀ b, F (pa t) i = some b → ol_th ro b := fun i hi => by rw [ep i hi]; exact hX.rth hV (hpq i hi)
  have h0 : ro (ta t) ≠ 0 := by rw [hro]; omega
  have hsr : So t = 0 ∨ So t = 1 ∨ So t = 3 ∨ So t = 4 ∨ So t = 5 ∨ So t = 6 := by omega
  rcases hsr with hS | hS | hS | hS | hS | hS
  · have hr : ro (ta t) = 2 := by rw [hro, hS]
    refine ol_callU (As := []) (owner := "ObjectLoads$Thing") (x := ⟨"ObjectLoads$Thing", "toldKey", "()I"⟩) C (x_toldKey l D cA ht) h0 (show ol_ct (ro (ta t)) = .inl 1 by rw [hr]; rfl) rfl wd_376 wd_5 hlink wd_810 (by decide) wd_375 wd_816 mhu_ObjectLoads_Thing_toldKey (ol_rm_le hR (by decide) (by decide)) rfl hW hdg (ol_xi ?_)
    rw [e2]
    exact kk
  · have hr : ro (ta t) = 3 := by rw [hro, hS]
    refine ol_callU (As := []) (owner := "ObjectLoads$Thing") (x := ⟨"ObjectLoads$Thing", "toldKey", "()I"⟩) C (x_toldKey l D cA ht) h0 (show ol_ct (ro (ta t)) = .inl 2 by rw [hr]; rfl) rfl wd_376 wd_5 hlink wd_810 (by decide) wd_375 wd_813 mhu_ObjectLoads_Thing_toldKey (ol_rm_le hR (by decide) (by decide)) rfl hW hdg (ol_xi ?_)
    rw [e2]
    exact kk
  · have hr : ro (ta t) = 5 := by rw [hro, hS]
    refine ol_callU (As := []) (owner := "ObjectLoads$Thing") (x := ⟨"ObjectLoads$Thing", "toldKey", "()I"⟩) C (x_toldKey l D cA ht) h0 (show ol_ct (ro (ta t)) = .inl 4 by rw [hr]; rfl) rfl wd_376 wd_5 hlink wd_810 (by decide) wd_375 wd_812 mhu_ObjectLoads_Thing_toldKey (ol_rm_le hR (by decide) (by decide)) rfl hW hdg (ol_xi ?_)
    rw [e2]
    exact kk
  · have hr : ro (ta t) = 6 := by rw [hro, hS]
    refine ol_callU (As := []) (owner := "ObjectLoads$Thing") (x := ⟨"ObjectLoads$Thing", "toldKey", "()I"⟩) C (x_toldKey l D cA ht) h0 (show ol_ct (ro (ta t)) = .inl 5 by rw [hr]; rfl) rfl wd_376 wd_5 hlink wd_810 (by decide) wd_375 wd_815 mhu_ObjectLoads_Thing_toldKey (ol_rm_le hR (by decide) (by decide)) rfl hW hdg (ol_xi ?_)
    rw [e2]
    exact kk
  · have hr : ro (ta t) = 7 := by rw [hro, hS]
    refine ol_callU (As := []) (owner := "ObjectLoads$Thing") (x := ⟨"ObjectLoads$Thing", "toldKey", "()I"⟩) C (x_toldKey l D cA ht) h0 (show ol_ct (ro (ta t)) = .inl 6 by rw [hr]; rfl) rfl wd_376 wd_5 hlink wd_810 (by decide) wd_375 wd_817 mhu_ObjectLoads_Thing_toldKey (ol_rm_le hR (by decide) (by decide)) rfl hW hdg (ol_xi ?_)
    rw [e2]
    exact kk
  · have hr : ro (ta t) = 8 := by rw [hro, hS]
    refine ol_callU (As := []) (owner := "ObjectLoads$Thing") (x := ⟨"ObjectLoads$Thing", "toldKey", "()I"⟩) C (x_toldKey l D cA ht) h0 (show ol_ct (ro (ta t)) = .inl 7 by rw [hr]; rfl) rfl wd_376 wd_5 hlink wd_810 (by decide) wd_375 wd_814 mhu_ObjectLoads_Thing_toldKey (ol_rm_le hR (by decide) (by decide)) rfl hW hdg (ol_xi ?_)
    rw [e2]
    exact kk

set_option maxRecDepth 100000 in
set_option maxHeartbeats 4000000 in
theorem dv_valueCause_Thing {ad ta pa : Nat → Nat} {n t index : Nat} {So : Nat → Nat} {T : Nat → Nat → Int32} {P : Nat → Nat → Option Nat} (C : ol_Cx p s m args c cc nL "ObjectLoads" D cA A) (hX : ol_XT ro I F ad ta pa n So T P) (hV : ol_V n So T P) (htn : t < n) (hnb : ¬ So t = 2) (hlink : Cond.methodLink "ObjectLoads" index ⟨"ObjectLoads$Thing", "valueCause", "()I"⟩ ∈ ol_all) (hR : ol_rm R (ol_r 2 0 0) 2 cells slots) (hW : (rest.map fun v => v.category).sum ≤ 8) (hdg : decode cc pc = .ok (.invokevirtual index, 3)) (kk : ol_W p l e R s m args below meth c D cA A Q nL ro I F cells slots (pc + 3) lv (.int (sp_vc So T t) :: rest)) : ol_W p l e R s m args below meth c D cA A Q nL ro I F cells slots pc lv (.ref (ta t) :: rest) := by
  have h6 := (hV.2 t htn).1
  have hx := (hX.2.1 t htn).2
  have ht := hx.th h6
  obtain ⟨hro, -, e2, e3, e5, -, hpl, -, e4, ep⟩ := id hx
  have hps := hx.ps
  have hp0 := (hV.2 t htn).2.2 0 (by decide)
  have hpq : ∀ i, i < 6 → ∀ u, P (1 + i) t = some u → u < n := fun i hi => (hV.2 t htn).2.2 (1 + i) (by omega)
  have hnx : ∀ b, F (ta t) 4 = some b → ol_th ro b := by rw [e4]; exact hX.rth hV hp0
  have hpt : ∀ i, i < 6 → ∀ b, F (pa t) i = some b → ol_th ro b := fun i hi => by rw [ep i hi]; exact hX.rth hV (hpq i hi)
  have h0 : ro (ta t) ≠ 0 := by rw [hro]; omega
  have hsr : So t = 0 ∨ So t = 1 ∨ So t = 3 ∨ So t = 4 ∨ So t = 5 ∨ So t = 6 := by omega
  rcases hsr with hS | hS | hS | hS | hS | hS
  · have hr : ro (ta t) = 2 := by rw [hro, hS]
    refine ol_callU (As := []) (owner := "ObjectLoads$Thing") (x := ⟨"ObjectLoads$Thing", "valueCause", "()I"⟩) C (x_valueCause9 l D cA ht) h0 (show ol_ct (ro (ta t)) = .inl 1 by rw [hr]; rfl) rfl wd_393 wd_5 hlink wd_834 (by decide) wd_392 wd_840 mhu_ObjectLoads_Thing_valueCause (ol_rm_le hR (by decide) (by decide)) rfl hW hdg (ol_xi ?_)
    rw [show (0 : Int32) = sp_vc So T t from (ol_if_f (fun q => by omega)).symm]
    exact kk
  · have hr : ro (ta t) = 3 := by rw [hro, hS]
    refine ol_callU (As := []) (owner := "ObjectLoads$Thing") (x := ⟨"ObjectLoads$Thing", "valueCause", "()I"⟩) C (x_valueCause9 l D cA ht) h0 (show ol_ct (ro (ta t)) = .inl 2 by rw [hr]; rfl) rfl wd_393 wd_5 hlink wd_834 (by decide) wd_392 wd_837 mhu_ObjectLoads_Thing_valueCause (ol_rm_le hR (by decide) (by decide)) rfl hW hdg (ol_xi ?_)
    rw [show (0 : Int32) = sp_vc So T t from (ol_if_f (fun q => by omega)).symm]
    exact kk
  · have hr : ro (ta t) = 5 := by rw [hro, hS]
    refine ol_callU (As := []) (owner := "ObjectLoads$Thing") (x := ⟨"ObjectLoads$Thing", "valueCause", "()I"⟩) C (x_valueCause1 l D cA ht) h0 (show ol_ct (ro (ta t)) = .inl 4 by rw [hr]; rfl) rfl wd_386 wd_10 hlink wd_834 (by decide) wd_385 wd_836 mhu_ObjectLoads_Thing_valueCause (ol_rm_le hR (by decide) (by decide)) rfl hW hdg (ol_xi ?_)
    rw [show ol_if (I (ta t) 3 = 0) (4 : Int32) 0 = sp_vc So T t from by rw [e3]; exact congrArg (fun z => ol_if z (4 : Int32) 0) (propext ⟨fun q => ⟨hS, q⟩, fun q => q.2⟩)]
    exact kk
  · have hr : ro (ta t) = 6 := by rw [hro, hS]
    refine ol_callU (As := []) (owner := "ObjectLoads$Thing") (x := ⟨"ObjectLoads$Thing", "valueCause", "()I"⟩) C (x_valueCause9 l D cA ht) h0 (show ol_ct (ro (ta t)) = .inl 5 by rw [hr]; rfl) rfl wd_393 wd_5 hlink wd_834 (by decide) wd_392 wd_839 mhu_ObjectLoads_Thing_valueCause (ol_rm_le hR (by decide) (by decide)) rfl hW hdg (ol_xi ?_)
    rw [show (0 : Int32) = sp_vc So T t from (ol_if_f (fun q => by omega)).symm]
    exact kk
  · have hr : ro (ta t) = 7 := by rw [hro, hS]
    refine ol_callU (As := []) (owner := "ObjectLoads$Thing") (x := ⟨"ObjectLoads$Thing", "valueCause", "()I"⟩) C (x_valueCause9 l D cA ht) h0 (show ol_ct (ro (ta t)) = .inl 6 by rw [hr]; rfl) rfl wd_393 wd_5 hlink wd_834 (by decide) wd_392 wd_841 mhu_ObjectLoads_Thing_valueCause (ol_rm_le hR (by decide) (by decide)) rfl hW hdg (ol_xi ?_)
    rw [show (0 : Int32) = sp_vc So T t from (ol_if_f (fun q => by omega)).symm]
    exact kk
  · have hr : ro (ta t) = 8 := by rw [hro, hS]
    refine ol_callU (As := []) (owner := "ObjectLoads$Thing") (x := ⟨"ObjectLoads$Thing", "valueCause", "()I"⟩) C (x_valueCause9 l D cA ht) h0 (show ol_ct (ro (ta t)) = .inl 7 by rw [hr]; rfl) rfl wd_393 wd_5 hlink wd_834 (by decide) wd_392 wd_838 mhu_ObjectLoads_Thing_valueCause (ol_rm_le hR (by decide) (by decide)) rfl hW hdg (ol_xi ?_)
    rw [show (0 : Int32) = sp_vc So T t from (ol_if_f (fun q => by omega)).symm]
    exact kk

set_option maxRecDepth 100000 in
set_option maxHeartbeats 4000000 in
theorem dv_toldValue_Thing {ad ta pa : Nat → Nat} {n t index : Nat} {So : Nat → Nat} {T : Nat → Nat → Int32} {P : Nat → Nat → Option Nat} (C : ol_Cx p s m args c cc nL "ObjectLoads" D cA A) (hX : ol_XT ro I F ad ta pa n So T P) (hV : ol_V n So T P) (htn : t < n) (hnb : ¬ So t = 2) (hlink : Cond.methodLink "ObjectLoads" index ⟨"ObjectLoads$Thing", "toldValue", "()I"⟩ ∈ ol_all) (hR : ol_rm R (ol_r 2 0 0) 2 cells slots) (hW : (rest.map fun v => v.category).sum ≤ 8) (hdg : decode cc pc = .ok (.invokevirtual index, 3)) (kk : ol_W p l e R s m args below meth c D cA A Q nL ro I F cells slots (pc + 3) lv (.int (sp_vv So T t) :: rest)) : ol_W p l e R s m args below meth c D cA A Q nL ro I F cells slots pc lv (.ref (ta t) :: rest) := by
  have h6 := (hV.2 t htn).1
  have hx := (hX.2.1 t htn).2
  have ht := hx.th h6
  obtain ⟨hro, -, e2, e3, e5, -, hpl, -, e4, ep⟩ := id hx
  have hps := hx.ps
  have hp0 := (hV.2 t htn).2.2 0 (by decide)
  have hpq : ∀ i, i < 6 → ∀ u, P (1 + i) t = some u → u < n := fun i hi => (hV.2 t htn).2.2 (1 + i) (by omega)
  have hnx : ∀ b, F (ta t) 4 = some b → ol_th ro b := by rw [e4]; exact hX.rth hV hp0
  have hpt : ∀ i, i < 6 → ∀ b, F (pa t) i = some b → ol_th ro b := fun i hi => by rw [ep i hi]; exact hX.rth hV (hpq i hi)
  have h0 : ro (ta t) ≠ 0 := by rw [hro]; omega
  have hsr : So t = 0 ∨ So t = 1 ∨ So t = 3 ∨ So t = 4 ∨ So t = 5 ∨ So t = 6 := by omega
  rcases hsr with hS | hS | hS | hS | hS | hS
  · have hr : ro (ta t) = 2 := by rw [hro, hS]
    refine ol_callU (As := []) (owner := "ObjectLoads$Thing") (x := ⟨"ObjectLoads$Thing", "toldValue", "()I"⟩) C (x_toldValue9 l D cA ht) h0 (show ol_ct (ro (ta t)) = .inl 1 by rw [hr]; rfl) rfl wd_413 wd_5 hlink wd_826 (by decide) wd_412 wd_832 mhu_ObjectLoads_Thing_toldValue (ol_rm_le hR (by decide) (by decide)) rfl hW hdg (ol_xi ?_)
    rw [show I (ta t) 3 = sp_vv So T t from by rw [e3]; unfold sp_vv; rw [ol_if_f (P := So t = 3) (by omega), ol_if_f (P := So t = 1) (by omega), ol_if_f (P := So t = 4) (by omega)]]
    exact kk
  · have hr : ro (ta t) = 3 := by rw [hro, hS]
    refine ol_callU (As := []) (owner := "ObjectLoads$Thing") (x := ⟨"ObjectLoads$Thing", "toldValue", "()I"⟩) C (x_toldValue2 l D cA ht) h0 (show ol_ct (ro (ta t)) = .inl 2 by rw [hr]; rfl) rfl wd_402 wd_7 hlink wd_826 (by decide) wd_401 wd_829 mhu_ObjectLoads_Thing_toldValue (ol_rm_le hR (by decide) (by decide)) rfl hW hdg (ol_xi ?_)
    rw [show 2 * I (ta t) 3 = sp_vv So T t from by rw [e3]; unfold sp_vv; rw [ol_if_f (P := So t = 3) (by omega), ol_if_t (P := So t = 1) (by omega)]]
    exact kk
  · have hr : ro (ta t) = 5 := by rw [hro, hS]
    refine ol_callU (As := []) (owner := "ObjectLoads$Thing") (x := ⟨"ObjectLoads$Thing", "toldValue", "()I"⟩) C (x_toldValue1 l D cA ht) h0 (show ol_ct (ro (ta t)) = .inl 4 by rw [hr]; rfl) rfl wd_399 wd_10 hlink wd_826 (by decide) wd_398 wd_828 mhu_ObjectLoads_Thing_toldValue (ol_rm_le hR (by decide) (by decide)) rfl hW hdg (ol_xi ?_)
    rw [show ol_if (I (ta t) 3 = 0) 0 (100 / I (ta t) 3) = sp_vv So T t from by rw [e3]; unfold sp_vv; rw [ol_if_t (P := So t = 3) (by omega)]]
    exact kk
  · have hr : ro (ta t) = 6 := by rw [hro, hS]
    refine ol_callU (As := []) (owner := "ObjectLoads$Thing") (x := ⟨"ObjectLoads$Thing", "toldValue", "()I"⟩) C (x_toldValue5 l D cA ht hr) h0 (show ol_ct (ro (ta t)) = .inl 5 by rw [hr]; rfl) rfl wd_406 wd_11 hlink wd_826 (by decide) wd_405 wd_831 mhu_ObjectLoads_Thing_toldValue (ol_rm_le hR (by decide) (by decide)) rfl hW hdg (ol_xi ?_)
    rw [show 2 * I (ta t) 3 + 1 = sp_vv So T t from by rw [e3]; unfold sp_vv; rw [ol_if_f (P := So t = 3) (by omega), ol_if_f (P := So t = 1) (by omega), ol_if_t (P := So t = 4) (by omega)]]
    exact kk
  · have hr : ro (ta t) = 7 := by rw [hro, hS]
    refine ol_callU (As := []) (owner := "ObjectLoads$Thing") (x := ⟨"ObjectLoads$Thing", "toldValue", "()I"⟩) C (x_toldValue8 l D cA ht) h0 (show ol_ct (ro (ta t)) = .inl 6 by rw [hr]; rfl) rfl wd_411 wd_12 hlink wd_826 (by decide) wd_410 wd_833 mhu_ObjectLoads_Thing_toldValue (ol_rm_le hR (by decide) (by decide)) rfl hW hdg (ol_xi ?_)
    rw [show I (ta t) 3 = sp_vv So T t from by rw [e3]; unfold sp_vv; rw [ol_if_f (P := So t = 3) (by omega), ol_if_f (P := So t = 1) (by omega), ol_if_f (P := So t = 4) (by omega)]]
    exact kk
  · have hr : ro (ta t) = 8 := by rw [hro, hS]
    refine ol_callU (As := []) (owner := "ObjectLoads$Thing") (x := ⟨"ObjectLoads$Thing", "toldValue", "()I"⟩) C (x_toldValue9 l D cA ht) h0 (show ol_ct (ro (ta t)) = .inl 7 by rw [hr]; rfl) rfl wd_413 wd_5 hlink wd_826 (by decide) wd_412 wd_830 mhu_ObjectLoads_Thing_toldValue (ol_rm_le hR (by decide) (by decide)) rfl hW hdg (ol_xi ?_)
    rw [show I (ta t) 3 = sp_vv So T t from by rw [e3]; unfold sp_vv; rw [ol_if_f (P := So t = 3) (by omega), ol_if_f (P := So t = 1) (by omega), ol_if_f (P := So t = 4) (by omega)]]
    exact kk

set_option maxRecDepth 100000 in
set_option maxHeartbeats 4000000 in
theorem dv_linksCause_Thing {ad ta pa : Nat → Nat} {n t index : Nat} {So : Nat → Nat} {T : Nat → Nat → Int32} {P : Nat → Nat → Option Nat} (C : ol_Cx p s m args c cc nL "ObjectLoads" D cA A) (hX : ol_XT ro I F ad ta pa n So T P) (hV : ol_V n So T P) (htn : t < n) (hnb : ¬ So t = 2) (hlink : Cond.methodLink "ObjectLoads" index ⟨"ObjectLoads$Thing", "linksCause", "()I"⟩ ∈ ol_all) (hR : ol_rm R (ol_r 2 0 0) 2 cells slots) (hW : (rest.map fun v => v.category).sum ≤ 8) (hdg : decode cc pc = .ok (.invokevirtual index, 3)) (kk : ol_W p l e R s m args below meth c D cA A Q nL ro I F cells slots (pc + 3) lv (.int (sp_lc So T P t) :: rest)) : ol_W p l e R s m args below meth c D cA A Q nL ro I F cells slots pc lv (.ref (ta t) :: rest) := by
  have h6 := (hV.2 t htn).1
  have hx := (hX.2.1 t htn).2
  have ht := hx.th h6
  obtain ⟨hro, -, e2, e3, e5, -, hpl, -, e4, ep⟩ := id hx
  have hps := hx.ps
  have hp0 := (hV.2 t htn).2.2 0 (by decide)
  have hpq : ∀ i, i < 6 → ∀ u, P (1 + i) t = some u → u < n := fun i hi => (hV.2 t htn).2.2 (1 + i) (by omega)
  have hnx : ∀ b, F (ta t) 4 = some b → ol_th ro b := by rw [e4]; exact hX.rth hV hp0
  have hpt : ∀ i, i < 6 → ∀ b, F (pa t) i = some b → ol_th ro b := fun i hi => by rw [ep i hi]; exact hX.rth hV (hpq i hi)
  have h0 : ro (ta t) ≠ 0 := by rw [hro]; omega
  have hsr : So t = 0 ∨ So t = 1 ∨ So t = 3 ∨ So t = 4 ∨ So t = 5 ∨ So t = 6 := by omega
  rcases hsr with hS | hS | hS | hS | hS | hS
  · have hr : ro (ta t) = 2 := by rw [hro, hS]
    refine ol_callU (As := []) (owner := "ObjectLoads$Thing") (x := ⟨"ObjectLoads$Thing", "linksCause", "()I"⟩) C (x_linksCause7 l D cA ht hnx) h0 (show ol_ct (ro (ta t)) = .inl 1 by rw [hr]; rfl) rfl wd_423 wd_9 hlink wd_850 (by decide) wd_422 wd_856 mhu_ObjectLoads_Thing_linksCause (ol_rm_le hR (by decide) (by decide)) rfl hW hdg (ol_xi ?_)
    rw [show ol_if (∃ b, F (ta t) 4 = some b ∧ ro b = 4) (3 : Int32) 0 = sp_lc So T P t from by rw [e4, propext (hX.rbr hp0)]; unfold sp_lc; rw [ol_if_f (P := So t = 5) (by omega), ol_if_f (P := So t = 1 ∨ So t = 4) (by omega)]]
    exact kk
  · have hr : ro (ta t) = 3 := by rw [hro, hS]
    refine ol_callU (As := []) (owner := "ObjectLoads$Thing") (x := ⟨"ObjectLoads$Thing", "linksCause", "()I"⟩) C (x_linksCause9 l D cA ht) h0 (show ol_ct (ro (ta t)) = .inl 2 by rw [hr]; rfl) rfl wd_437 wd_5 hlink wd_850 (by decide) wd_436 wd_853 mhu_ObjectLoads_Thing_linksCause (ol_rm_le hR (by decide) (by decide)) rfl hW hdg (ol_xi ?_)
    rw [show (0 : Int32) = sp_lc So T P t from by unfold sp_lc; rw [ol_if_f (P := So t = 5) (by omega), ol_if_t (P := So t = 1 ∨ So t = 4) (by omega), ol_if_f (P := So t = 4 ∧ ∃ i, i < 6 ∧ ol_br So (P (1 + i) t)) (fun q => by omega)]]
    exact kk
  · have hr : ro (ta t) = 5 := by rw [hro, hS]
    refine ol_callU (As := []) (owner := "ObjectLoads$Thing") (x := ⟨"ObjectLoads$Thing", "linksCause", "()I"⟩) C (x_linksCause7 l D cA ht hnx) h0 (show ol_ct (ro (ta t)) = .inl 4 by rw [hr]; rfl) rfl wd_423 wd_9 hlink wd_850 (by decide) wd_422 wd_852 mhu_ObjectLoads_Thing_linksCause (ol_rm_le hR (by decide) (by decide)) rfl hW hdg (ol_xi ?_)
    rw [show ol_if (∃ b, F (ta t) 4 = some b ∧ ro b = 4) (3 : Int32) 0 = sp_lc So T P t from by rw [e4, propext (hX.rbr hp0)]; unfold sp_lc; rw [ol_if_f (P := So t = 5) (by omega), ol_if_f (P := So t = 1 ∨ So t = 4) (by omega)]]
    exact kk
  · have hr : ro (ta t) = 6 := by rw [hro, hS]
    refine ol_callU (As := []) (owner := "ObjectLoads$Thing") (x := ⟨"ObjectLoads$Thing", "linksCause", "()I"⟩) C (x_linksCause5 l D cA ht hpl hps hpt) h0 (show ol_ct (ro (ta t)) = .inl 5 by rw [hr]; rfl) rfl wd_429 wd_11 hlink wd_850 (by decide) wd_428 wd_855 mhu_ObjectLoads_Thing_linksCause (ol_rm_le hR (by decide) (by decide)) rfl hW hdg (ol_xi ?_)
    rw [show ol_if (∃ i, i < 6 ∧ ol_bq ro (F (pa t) i)) (3 : Int32) 0 = sp_lc So T P t from by unfold sp_lc; rw [ol_if_f (P := So t = 5) (by omega), ol_if_t (P := So t = 1 ∨ So t = 4) (by omega)]; exact congrArg (fun z => ol_if z (3 : Int32) 0) (propext ⟨fun ⟨i, h1, h2⟩ => ⟨hS, i, h1, (hX.rbr (hpq i h1)).mp (by rw [ep i h1] at h2; exact h2)⟩, fun ⟨_, i, h1, h2⟩ => ⟨i, h1, by rw [ep i h1]; exact (hX.rbr (hpq i h1)).mpr h2⟩⟩)]
    exact kk
  · have hr : ro (ta t) = 7 := by rw [hro, hS]
    refine ol_callU (As := []) (owner := "ObjectLoads$Thing") (x := ⟨"ObjectLoads$Thing", "linksCause", "()I"⟩) C (x_linksCause8 l D cA ht) h0 (show ol_ct (ro (ta t)) = .inl 6 by rw [hr]; rfl) rfl wd_434 wd_12 hlink wd_850 (by decide) wd_433 wd_857 mhu_ObjectLoads_Thing_linksCause (ol_rm_le hR (by decide) (by decide)) rfl hW hdg (ol_xi ?_)
    rw [show ol_if (ol_k 6 (I (ta t) 3)) (0 : Int32) 2 = sp_lc So T P t from by rw [e3]; unfold sp_lc; rw [ol_if_t (P := So t = 5) (by omega)]]
    exact kk
  · have hr : ro (ta t) = 8 := by rw [hro, hS]
    refine ol_callU (As := []) (owner := "ObjectLoads$Thing") (x := ⟨"ObjectLoads$Thing", "linksCause", "()I"⟩) C (x_linksCause7 l D cA ht hnx) h0 (show ol_ct (ro (ta t)) = .inl 7 by rw [hr]; rfl) rfl wd_423 wd_9 hlink wd_850 (by decide) wd_422 wd_854 mhu_ObjectLoads_Thing_linksCause (ol_rm_le hR (by decide) (by decide)) rfl hW hdg (ol_xi ?_)
    rw [show ol_if (∃ b, F (ta t) 4 = some b ∧ ro b = 4) (3 : Int32) 0 = sp_lc So T P t from by rw [e4, propext (hX.rbr hp0)]; unfold sp_lc; rw [ol_if_f (P := So t = 5) (by omega), ol_if_f (P := So t = 1 ∨ So t = 4) (by omega)]]
    exact kk

set_option maxRecDepth 100000 in
set_option maxHeartbeats 4000000 in
theorem dv_linkCount_Thing {ad ta pa : Nat → Nat} {n t index : Nat} {So : Nat → Nat} {T : Nat → Nat → Int32} {P : Nat → Nat → Option Nat} (C : ol_Cx p s m args c cc nL "ObjectLoads" D cA A) (hX : ol_XT ro I F ad ta pa n So T P) (hV : ol_V n So T P) (htn : t < n) (hnb : ¬ So t = 2) (hlink : Cond.methodLink "ObjectLoads" index ⟨"ObjectLoads$Thing", "linkCount", "()I"⟩ ∈ ol_all) (hR : ol_rm R (ol_r 2 0 0) 2 cells slots) (hW : (rest.map fun v => v.category).sum ≤ 8) (hdg : decode cc pc = .ok (.invokevirtual index, 3)) (kk : ol_W p l e R s m args below meth c D cA A Q nL ro I F cells slots (pc + 3) lv (.int (nI (sp_ln So P t)) :: rest)) : ol_W p l e R s m args below meth c D cA A Q nL ro I F cells slots pc lv (.ref (ta t) :: rest) := by
  have h6 := (hV.2 t htn).1
  have hx := (hX.2.1 t htn).2
  have ht := hx.th h6
  obtain ⟨hro, -, e2, e3, e5, -, hpl, -, e4, ep⟩ := id hx
  have hps := hx.ps
  have hp0 := (hV.2 t htn).2.2 0 (by decide)
  have hpq : ∀ i, i < 6 → ∀ u, P (1 + i) t = some u → u < n := fun i hi => (hV.2 t htn).2.2 (1 + i) (by omega)
  have hnx : ∀ b, F (ta t) 4 = some b → ol_th ro b := by rw [e4]; exact hX.rth hV hp0
  have hpt : ∀ i, i < 6 → ∀ b, F (pa t) i = some b → ol_th ro b := fun i hi => by rw [ep i hi]; exact hX.rth hV (hpq i hi)
  have h0 : ro (ta t) ≠ 0 := by rw [hro]; omega
  have hsr : So t = 0 ∨ So t = 1 ∨ So t = 3 ∨ So t = 4 ∨ So t = 5 ∨ So t = 6 := by omega
  rcases hsr with hS | hS | hS | hS | hS | hS
  · have hr : ro (ta t) = 2 := by rw [hro, hS]
    refine ol_callU (As := []) (owner := "ObjectLoads$Thing") (x := ⟨"ObjectLoads$Thing", "linkCount", "()I"⟩) C (x_linkCount7 l D cA ht) h0 (show ol_ct (ro (ta t)) = .inl 1 by rw [hr]; rfl) rfl wd_443 wd_9 hlink wd_842 (by decide) wd_442 wd_848 mhu_ObjectLoads_Thing_linkCount (ol_rm_le hR (by decide) (by decide)) rfl hW hdg (ol_xi ?_)
    have eqq : ol_if (F (ta t) 4 = none) (0 : Int32) 1 = nI (sp_ln So P t) := by
      unfold sp_ln
      rw [ol_if_f (P := So t = 5) (by omega), ol_if_f (P := So t = 1 ∨ So t = 4) (by omega), e4]
      by_cases h : P 0 t = none
      · rw [ol_if_t (P := (P 0 t).map ta = none) (by rw [h]; rfl), ol_if_t (P := P 0 t = none) h]
        rfl
      · rw [ol_if_f (P := (P 0 t).map ta = none) (fun q => by cases hq : P 0 t with | none => exact h hq | some u => rw [hq] at q; cases q), ol_if_f (P := P 0 t = none) h]
        rfl
    rw [eqq]
    exact kk
  · have hr : ro (ta t) = 3 := by rw [hro, hS]
    refine ol_callU (As := []) (owner := "ObjectLoads$Thing") (x := ⟨"ObjectLoads$Thing", "linkCount", "()I"⟩) C (x_linkCount2 l D cA ht) h0 (show ol_ct (ro (ta t)) = .inl 2 by rw [hr]; rfl) rfl wd_446 wd_7 hlink wd_842 (by decide) wd_445 wd_845 mhu_ObjectLoads_Thing_linkCount (ol_rm_le hR (by decide) (by decide)) rfl hW hdg (ol_xi ?_)
    rw [show (6 : Int32) = nI (sp_ln So P t) from by unfold sp_ln; rw [ol_if_f (P := So t = 5) (by omega), ol_if_t (P := So t = 1 ∨ So t = 4) (by omega)]; rfl]
    exact kk
  · have hr : ro (ta t) = 5 := by rw [hro, hS]
    refine ol_callU (As := []) (owner := "ObjectLoads$Thing") (x := ⟨"ObjectLoads$Thing", "linkCount", "()I"⟩) C (x_linkCount7 l D cA ht) h0 (show ol_ct (ro (ta t)) = .inl 4 by rw [hr]; rfl) rfl wd_443 wd_9 hlink wd_842 (by decide) wd_442 wd_844 mhu_ObjectLoads_Thing_linkCount (ol_rm_le hR (by decide) (by decide)) rfl hW hdg (ol_xi ?_)
    have eqq : ol_if (F (ta t) 4 = none) (0 : Int32) 1 = nI (sp_ln So P t) := by
      unfold sp_ln
      rw [ol_if_f (P := So t = 5) (by omega), ol_if_f (P := So t = 1 ∨ So t = 4) (by omega), e4]
      by_cases h : P 0 t = none
      · rw [ol_if_t (P := (P 0 t).map ta = none) (by rw [h]; rfl), ol_if_t (P := P 0 t = none) h]
        rfl
      · rw [ol_if_f (P := (P 0 t).map ta = none) (fun q => by cases hq : P 0 t with | none => exact h hq | some u => rw [hq] at q; cases q), ol_if_f (P := P 0 t = none) h]
        rfl
    rw [eqq]
    exact kk
  · have hr : ro (ta t) = 6 := by rw [hro, hS]
    refine ol_callU (As := []) (owner := "ObjectLoads$Thing") (x := ⟨"ObjectLoads$Thing", "linkCount", "()I"⟩) C (x_linkCount2 l D cA ht) h0 (show ol_ct (ro (ta t)) = .inl 5 by rw [hr]; rfl) rfl wd_446 wd_7 hlink wd_842 (by decide) wd_445 wd_847 mhu_ObjectLoads_Thing_linkCount (ol_rm_le hR (by decide) (by decide)) rfl hW hdg (ol_xi ?_)
    rw [show (6 : Int32) = nI (sp_ln So P t) from by unfold sp_ln; rw [ol_if_f (P := So t = 5) (by omega), ol_if_t (P := So t = 1 ∨ So t = 4) (by omega)]; rfl]
    exact kk
  · have hr : ro (ta t) = 7 := by rw [hro, hS]
    refine ol_callU (As := []) (owner := "ObjectLoads$Thing") (x := ⟨"ObjectLoads$Thing", "linkCount", "()I"⟩) C (x_linkCount8 l D cA ht) h0 (show ol_ct (ro (ta t)) = .inl 6 by rw [hr]; rfl) rfl wd_452 wd_12 hlink wd_842 (by decide) wd_451 wd_849 mhu_ObjectLoads_Thing_linkCount (ol_rm_le hR (by decide) (by decide)) rfl hW hdg (ol_xi ?_)
    rw [show (1 : Int32) = nI (sp_ln So P t) from by unfold sp_ln; rw [ol_if_t (P := So t = 5) (by omega)]; rfl]
    exact kk
  · have hr : ro (ta t) = 8 := by rw [hro, hS]
    refine ol_callU (As := []) (owner := "ObjectLoads$Thing") (x := ⟨"ObjectLoads$Thing", "linkCount", "()I"⟩) C (x_linkCount7 l D cA ht) h0 (show ol_ct (ro (ta t)) = .inl 7 by rw [hr]; rfl) rfl wd_443 wd_9 hlink wd_842 (by decide) wd_442 wd_846 mhu_ObjectLoads_Thing_linkCount (ol_rm_le hR (by decide) (by decide)) rfl hW hdg (ol_xi ?_)
    have eqq : ol_if (F (ta t) 4 = none) (0 : Int32) 1 = nI (sp_ln So P t) := by
      unfold sp_ln
      rw [ol_if_f (P := So t = 5) (by omega), ol_if_f (P := So t = 1 ∨ So t = 4) (by omega), e4]
      by_cases h : P 0 t = none
      · rw [ol_if_t (P := (P 0 t).map ta = none) (by rw [h]; rfl), ol_if_t (P := P 0 t = none) h]
        rfl
      · rw [ol_if_f (P := (P 0 t).map ta = none) (fun q => by cases hq : P 0 t with | none => exact h hq | some u => rw [hq] at q; cases q), ol_if_f (P := P 0 t = none) h]
        rfl
    rw [eqq]
    exact kk

end OLDV