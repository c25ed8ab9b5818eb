abbrev ol_r (h cells slots : Nat) : Room := { frames := h, cells := cells, slots := slots, locals := 32 * h }
/-- 1 if it holds, else 0 -/
noncomputable def ol_p (P : Prop) : Int32 := @ite Int32 P (Classical.propDecidable P) 1 0
theorem ol_p_t {P : Prop} (h : P) : ol_p P = 1 := by unfold ol_p; exact if_pos h
theorem ol_p_f {P : Prop} (h : ¬ P) : ol_p P = 0 := by unfold ol_p; exact if_neg h
theorem ol_p_0 {P : Prop} : ol_p P = 0 ↔ ¬ P := by
  constructor
  · intro h hp
    rw [ol_p_t hp] at h
    exact absurd h (by decide)
  · exact ol_p_f
theorem ol_p_n {P : Prop} : ¬ ol_p P = 0 ↔ P := by
  rw [ol_p_0]
  exact ⟨fun h => Classical.byContradiction h, fun h q => q h⟩
theorem ol_p_or (P : Prop) : (P ∧ ol_p P = 1) ∨ (¬ P ∧ ol_p P = 0) := by
  by_cases h : P
  · exact Or.inl ⟨h, ol_p_t h⟩
  · exact Or.inr ⟨h, ol_p_f h⟩
theorem ol_p_nar (P : Prop) : narrow .boolean (.int (ol_p P)) = .int (ol_p P) := by rcases ol_p_or P with ⟨-, h⟩ | ⟨-, h⟩ <;> rw [h] <;> rfl
theorem ol_p_fit (P : Prop) : fits .boolean (.int (ol_p P)) = true := by rcases ol_p_or P with ⟨-, h⟩ | ⟨-, h⟩ <;> rw [h] <;> rfl
theorem ol_p_np (P : Prop) : vp_nar .boolean (ol_p P) = ol_p P := by rcases ol_p_or P with ⟨-, h⟩ | ⟨-, h⟩ <;> rw [h] <;> rfl
noncomputable def ol_if {α : Type} (P : Prop) (a b : α) : α := @ite α P (Classical.propDecidable P) a b
theorem ol_if_t {α : Type} {P : Prop} {a b : α} (h : P) : ol_if P a b = a := by unfold ol_if; exact if_pos h
theorem ol_if_f {α : Type} {P : Prop} {a b : α} (h : ¬ P) : ol_if P a b = b := by unfold ol_if; exact if_neg h
section OLT
variable {p : Program} {l : Launch} {e : Env} {R : Room} {s : State} {m : MethodId} {args : Array Value} {below : List Frame} {meth : Method} {c : Code} {D : va_G} {cA : Nat → ClassId} {A : Nat → Prop} {Q : State → Prop} {nL : Nat} {ro : Nat → Nat} {I : Nat → Nat → Int32} {F : Nat → Nat → Option Nat} {cells slots pc : Nat} {lv : List (Option Value)} {rest : List Value} {cc : ByteArray} {own : String}
theorem ol_iinc1 {i : Nat} {x : Int32} (C : ol_Cx p s m args c cc nL own D cA A) (hdg : decode cc pc = .ok (.iinc i 1, 3)) (hx : lv[i]? = some (some (.int x))) (hn : i < nL) (kk : ol_W p l e R s m args below meth c D cA A Q nL ro I F cells slots (pc + 3) (lv.set i (some (.int (x + 1)))) rest) : ol_W p l e R s m args below meth c D cA A Q nL ro I F cells slots pc lv rest := ol_iinc C hdg hx rfl hn kk
theorem ol_iincN {i k : Nat} (C : ol_Cx p s m args c cc nL own D cA A) (hdg : decode cc pc = .ok (.iinc i 1, 3)) (hx : lv[i]? = some (some (.int (nI k)))) (hn : i < nL) (kk : ol_W p l e R s m args below meth c D cA A Q nL ro I F cells slots (pc + 3) (lv.set i (some (.int (nI (k + 1))))) rest) : ol_W p l e R s m args below meth c D cA A Q nL ro I F cells slots pc lv rest := ol_iinc C hdg hx (nI_1 k) hn kk
theorem ol_oinit {index a : Nat} (C : ol_Cx p s m args c cc nL own D cA A) (hlink : Cond.methodLink own index ⟨"java/lang/Object", "<init>", "()V"⟩ ∈ ol_all) (hdg : decode cc pc = .ok (.invokespecial index, 3)) (hf : 1 ≤ R.frames) (hlo : 20 ≤ R.locals) (hW : (rest.map fun v => v.category).sum ≤ 8) (kk : ol_W p l e R s m args below meth c D cA A Q nL ro I F cells slots (pc + 3) lv rest) : ol_W p l e R s m args below meth c D cA A Q nL ro I F cells slots pc lv (.ref a :: rest) := by
  intro H locs ls hP hS hl
  have hr := lv_room (m := m) (pc := pc) (ls := ls) (rest := .ref a :: rest) hW
  refine W.objInit C.1 C.2.1 C.2.2.2.1 (C.2.2.2.2.1 _ hlink) (C.2.2.2.2.1 _ wd_20) (C.2.2.2.2.1 _ wd_21) rfl (by rw [C.2.2.1]; exact hl.1.1) rfl hdg hf (by omega) ?_
  exact kk H locs ls hP hS hl
end OLT
theorem ol_pt {P : Prop} (h : P) : some (Value.int 1) = some (Value.int (ol_p P)) := by rw [ol_p_t h]
theorem ol_pf {P : Prop} (h : ¬ P) : some (Value.int 0) = some (Value.int (ol_p P)) := by rw [ol_p_f h]
theorem ol_it {P : Prop} {a b : Int32} (h : P) : some (Value.int a) = some (Value.int (ol_if P a b)) := by rw [ol_if_t h]
theorem ol_iff {P : Prop} {a b : Int32} (h : ¬ P) : some (Value.int b) = some (Value.int (ol_if P a b)) := by rw [ol_if_f h]
theorem ol_itq {P : Prop} {a b : Option Nat} (h : P) : some (va_rf a) = some (va_rf (ol_if P a b)) := by rw [ol_if_t h]
theorem ol_ifq {P : Prop} {a b : Option Nat} (h : ¬ P) : some (va_rf b) = some (va_rf (ol_if P a b)) := by rw [ol_if_f h]
theorem ol_ix {n t : Int32} {k : Nat} (h : ¬ n < 0 ∧ ¬ t ≤ n) (hk : t = nI k) (h40 : k ≤ 40) : ∃ j, j < k ∧ n = nI j := by
  subst hk
  obtain ⟨j, h1, h2⟩ := pk_mu h.1 h.2 (by omega)
  exact ⟨j, h1, h2.1⟩
