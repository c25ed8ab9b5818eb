/-! THE LAW's ROWS -/
theorem lw_n1 : ∀ w ∈ ol_n1, w ∈ lw_tbl := by decide +kernel
theorem lw_n2 : ∀ q ∈ ol_n2, Cond.not (.castable q.1 q.2) ∈ flatC (Jvm.Cond.and given_1 narrow_1) := by decide +kernel
theorem lw_n3 : ∀ q ∈ ol_n3, Cond.arrayOver (.object q) ∈ lw_tbl := by decide +kernel
theorem lw_inst : ∀ (ci : Nat) (q : vw_C), ol_cl[ci]? = some q → Cond.instantiable q.1 q.2.2 ∈ ol_all := by
  intro ci q h
  match ci, h with
  | 0, h => cases h; exact wd_15
  | 1, h => cases h; exact wd_259
  | 2, h => cases h; exact wd_121
  | 3, h => cases h; exact wd_186
  | 4, h => cases h; exact wd_200
  | 5, h => cases h; exact wd_217
  | 6, h => cases h; exact wd_231
  | 7, h => cases h; exact wd_245
  | 8, h => cases h; exact wd_25
  | 9, h => cases h; exact wd_571
  | k + 10, h => simp [ol_cl] at h
/-- what holds at the law's entry, over the typed memory -/
theorem lw_cx {p : Program} {s : State} {m : MethodId} {meth : Method} {c : Code} {b L : Nat} {xs : Nat → Int32} (C0 : lw_At p s m meth c b L xs) : ∃ (D : va_G) (cA : Nat → ClassId), ol_Cx p s m #[Value.ref b] c cL_law 4 RL D cA (fun q => s.heap.size ≤ q) := by
  obtain ⟨hx, hb, hr, hml, hown, hts, hX, hbl, hlocks, hgv⟩ := C0
  have hall : ∀ w ∈ ol_all, w.before #[Value.ref b] s = true := fun w hw => hts w (List.mem_filter.mp hw).1
  have H : ∀ ci : Nat, ∃ x : ClassId × (Nat → Nat), ∀ q : vw_C, ol_cl[ci]? = some q → u_Kn s q.1 q.2.1 q.2.2 x.1 x.2 := by
    intro ci
    cases hq : ol_cl[ci]? with
    | none => exact ⟨((0 : Nat), fun _ => 0), fun q h => by cases h⟩
    | some q =>
      obtain ⟨cC, iS, hK⟩ := u_known (C := q.1) (T := q.2.1) (N := q.2.2) (n := q.2.2) hall (ol_cl_ws ci q hq) (hall _ (lw_inst ci q hq))
      exact ⟨(cC, iS), fun q' h => by cases h; exact hK⟩
  obtain ⟨f, hf⟩ := Classical.axiomOfChoice H
  obtain ⟨a0, k0, p0, e0, g0, j0⟩ := Cond.arrayClass_spec (hall _ wd_83)
  obtain ⟨a1, k1, p1, e1, g1, j1⟩ := Cond.arrayClass_spec (hall _ wd_84)
  obtain ⟨p2, a2, k2, e2, -, g2, j2, n2⟩ := Cond.arrayOver_spec (hts _ (lw_n3 "ObjectLoads$Thing" (by decide)))
  obtain ⟨p3, a3, k3, e3, -, g3, j3, n3⟩ := Cond.arrayOver_spec (hts _ (lw_n3 "ObjectLoads$Node" (by decide)))
  refine ⟨(fun ci => (f ci).1, fun ci => (f ci).2), fun t => match t with
    | 0 => a0
    | 1 => a1
    | 2 => a2
    | _ => a3, hx, hb, hml, hown, hall, ⟨⟨fun ci q hq => hf ci q hq, fun k q hq => ?_⟩, fun w hw => va_Nw.of (ol_t1 (ol_n1_ok w hw)) (hts w (lw_n1 w hw)), fun q hq => va_Nc.of (flat_of_before _ hgv _ (lw_n2 q hq)), fun q hq => va_AO.of (hts _ (lw_n3 q hq))⟩, fun q h => h⟩
  match k, hq with
  | 0, hq => cases hq; exact ⟨fun n z => ⟨fun k h => (by cases h), k0, g0, p0, j0⟩, e0⟩
  | 1, hq => cases hq; exact ⟨fun n z => ⟨fun k h => (by cases h), k1, g1, p1, j1⟩, e1⟩
  | 2, hq => cases hq; exact ⟨fun n z => ⟨fun k h => (by cases h), k2, g2, p2, j2⟩, k2, p2, g2, j2, e2, n2⟩
  | 3, hq => cases hq; exact ⟨fun n z => ⟨fun k h => (by cases h), k3, g3, p3, j3⟩, k3, p3, g3, j3, e3, n3⟩
  | k + 4, hq => simp [ol_tys] at hq
/-- nothing is there yet -/
theorem lw_PG0 (D : va_G) (cA : Nat → ClassId) (A : Nat → Prop) (H : Heap) : ol_PG D cA A (fun _ => 0) (fun _ _ => 0) (fun _ _ => none) H :=
  ⟨[], fun a => ⟨fun h => by simp at h, fun h => absurd rfl h⟩, fun k q h => by simp [va_pl] at h, ⟨fun i j p q h => by simp [va_pl] at h, fun k q h => by simp [va_pl] at h⟩⟩
section LWR
variable {p : Program} {l : Launch} {e : Env} {R : Room} {s : State} {m : MethodId} {args : Array Value} {below : List Frame} {meth : Method} {c : Code} {D : va_G} {cA : Nat → ClassId} {A : Nat → Prop} {Q : State → Prop} {nL : Nat} {ro : Nat → Nat} {I : Nat → Nat → Int32} {F : Nat → Nat → Option Nat} {cells slots pc : Nat} {lv : List (Option Value)} {rest : List Value} {cc : ByteArray} {own : String} {b L : Nat} {xs : Nat → Int32}
theorem ol_sld {i : Int32} (k : Nat) (C : ol_Cx p s m args c cc nL own D cA A) (hX : va_X b L xs s s.heap) (hbl : b < s.heap.size) (hbA : ¬ A b) (hik : i = nI k) (hk : k < L) (hL : L < 2 ^ 31) (hdg : decode cc pc = .ok (.iaload, 1)) (kk : ol_W p l e R s m args below meth c D cA A Q nL ro I F cells slots (pc + 1) lv (.int (xs k) :: rest)) : ol_W p l e R s m args below meth c D cA A Q nL ro I F cells slots pc lv (.int i :: .ref b :: rest) := by
  obtain ⟨h1, h2⟩ := ol_nin hik hk hL
  intro H locs ls hP hS hl
  refine va_sld C.1 C.2.1 hX hbl hbA hS h1 hdg ?_
  rw [h2]
  exact kk H locs ls hP hS hl
theorem ol_slen (C : ol_Cx p s m args c cc nL own D cA A) (hX : va_X b L xs s s.heap) (hbl : b < s.heap.size) (hbA : ¬ A b) (hdg : decode cc pc = .ok (.arraylength, 1)) (kk : ol_W p l e R s m args below meth c D cA A Q nL ro I F cells slots (pc + 1) lv (.int (nI L) :: rest)) : ol_W p l e R s m args below meth c D cA A Q nL ro I F cells slots pc lv (.ref b :: rest) := by
  intro H locs ls hP hS hl
  exact va_slen C.1 C.2.1 hX hbl hbA hS hdg (kk H locs ls hP hS hl)
/-- one of the script's ints -/
theorem lw_arg {i : Nat} (k : Nat) {z : Int} (C : ol_Cx p s m args c cc nL own D cA A) (hX : va_X b L xs s s.heap) (hbl : b < s.heap.size) (hbA : ¬ A b) (hL : L < 2 ^ 31) (hk : i + k < L) (l0 : lv[0]? = some (some (.ref b))) (l3 : lv[3]? = some (some (.int (nI i)))) (hz : Int32.ofInt z = nI k) (h0 : decode cc pc = .ok (.aload_n 0, 1)) (h1 : decode cc (pc + 1) = .ok (.iload_n 3, 1)) (h2 : decode cc (pc + 1 + 1) = .ok (.iconst z, 1)) (h3 : decode cc (pc + 1 + 1 + 1) = .ok (.iadd, 1)) (h4 : decode cc (pc + 1 + 1 + 1 + 1) = .ok (.iaload, 1)) (kk : ol_W p l e R s m args below meth c D cA A Q nL ro I F cells slots (pc + 1 + 1 + 1 + 1 + 1) lv (.int (xs (i + k)) :: rest)) : ol_W p l e R s m args below meth c D cA A Q nL ro I F cells slots pc lv rest := by
  refine ol_aload_n C h0 rfl l0 (ol_isq_r _) ?_
  refine ol_iload_n C h1 rfl l3 ?_
  refine ol_iconst (v := nI k) C h2 hz ?_
  refine ol_iadd C h3 ?_
  exact ol_sld (i + k) C hX hbl hbA (nI_add i k) hk hL h4 kk
/-- 'is it not 0' -/
theorem lw_bool {x : Int32} {o1 o2 : Int} {t1 t2 : Nat} (C : ol_Cx p s m args c cc nL own D cA A) (h0 : decode cc pc = .ok (.ifCond .eq o1, 3)) (e1 : (pc : Int) + o1 = (t1 : Int)) (h1 : decode cc (pc + 3) = .ok (.iconst 1, 1)) (h2 : decode cc (pc + 3 + 1) = .ok (.goto o2, 3)) (e2 : ((pc + 3 + 1 : Nat) : Int) + o2 = (t2 : Int)) (h3 : decode cc t1 = .ok (.iconst 0, 1)) (e3 : t1 + 1 = t2) (kk : ol_W p l e R s m args below meth c D cA A Q nL ro I F cells slots t2 lv (.int (ol_p (¬ x = 0)) :: rest)) : ol_W p l e R s m args below meth c D cA A Q nL ro I F cells slots pc lv (.int x :: rest) := by
  subst e3
  refine ol_if_eq (tgt := t1) C h0 e1 (fun q => ?_) (fun q => ?_)
  · refine ol_iconst (v := 0) C h3 (by decide) ?_
    rw [ol_p_f (fun z => z q)] at kk
    exact kk
  · refine ol_iconst (v := 1) C h1 (by decide) ?_
    refine ol_goto (tgt := t1 + 1) C h2 e2 ?_
    rw [ol_p_t q] at kk
    exact kk
theorem lw_k1 {ad : Nat → Nat} {y : MethodName} {cb : ByteArray} {n : Nat} {rm : Room} {av : List Value} (kk : ∀ (z : Int32) (ro' : Nat → Nat) (I' : Nat → Nat → Int32) (F' : Nat → Nat → Option Nat), ol_is ro' (ad 10) (.inl 9) → (∀ (l : Launch) (D : va_G) (cA : Nat → ClassId), ol_M l D cA y cb n (some .int) rm av ro' I' F' (ol_pq ad z)) → ol_W p l e R s m args below meth c D cA A Q nL ro' I' F' cells slots pc lv (.int z :: rest)) : ∀ (v : Option Value) (ro' : Nat → Nat) (I' : Nat → Nat → Int32) (F' : Nat → Nat → Option Nat), ol_po ad y cb n rm av v ro' I' F' → ol_W p l e R s m args below meth c D cA A Q nL ro' I' F' cells slots pc lv (v.toList ++ rest) := by
  rintro v ro' I' F' ⟨z, rfl, hi, hM⟩
  exact kk z ro' I' F' hi hM
theorem lw_k2 {ad : Nat → Nat} {z : Int32} (kk : ∀ (ro' : Nat → Nat) (I' : Nat → Nat → Int32) (F' : Nat → Nat → Option Nat), ol_ST ro' I' F' ad → ol_W p l e R s m args below meth c D cA A Q nL ro' I' F' cells slots pc lv (.int z :: rest)) : ∀ (v : Option Value) (ro' : Nat → Nat) (I' : Nat → Nat → Int32) (F' : Nat → Nat → Option Nat), ol_pq ad z v ro' I' F' → ol_W p l e R s m args below meth c D cA A Q nL ro' I' F' cells slots pc lv (v.toList ++ rest) := by
  rintro v ro' I' F' ⟨rfl, hS⟩
  exact kk ro' I' F' hS
end LWR
theorem lw_p01 (P : Prop) : ol_p P = 0 ∨ ol_p P = 1 := by
  rcases ol_p_or P with ⟨-, h⟩ | ⟨-, h⟩
  · exact Or.inr h
  · exact Or.inl h
