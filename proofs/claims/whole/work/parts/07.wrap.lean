/-! shorter rows: a cell's kind as one fact, things of any sort, indices by their number -/
def ol_is (ro : Nat → Nat) (a : Nat) (x : Nat ⊕ (Nat × Nat)) : Prop := ro a ≠ 0 ∧ ol_ct (ro a) = x
theorem ol_is_of {ro : Nat → Nat} {a r : Nat} {x : Nat ⊕ (Nat × Nat)} (h : ro a = r) (hr : r ≠ 0) (hx : ol_ct r = x) : ol_is ro a x := ⟨by rw [h]; exact hr, by rw [h]; exact hx⟩
/-- a thing of any of the seven sorts -/
def ol_th (ro : Nat → Nat) (a : Nat) : Prop := 2 ≤ ro a ∧ ro a ≤ 8
theorem ol_th_ct {ro : Nat → Nat} {a : Nat} (h : ol_th ro a) : ro a ≠ 0 ∧ ∃ ci, ci ∈ [1, 2, 3, 4, 5, 6, 7] ∧ ol_ct (ro a) = .inl ci := by
  obtain ⟨h1, h2⟩ := h
  refine ⟨by omega, ?_⟩
  have h3 : ro a = 2 ∨ ro a = 3 ∨ ro a = 4 ∨ ro a = 5 ∨ ro a = 6 ∨ ro a = 7 ∨ ro a = 8 := by omega
  rcases h3 with h | h | h | h | h | h | h <;> rw [h]
  · exact ⟨1, by decide, rfl⟩
  · exact ⟨2, by decide, rfl⟩
  · exact ⟨3, by decide, rfl⟩
  · exact ⟨4, by decide, rfl⟩
  · exact ⟨5, by decide, rfl⟩
  · exact ⟨6, by decide, rfl⟩
  · exact ⟨7, by decide, rfl⟩
/-- field k of a thing: declared as x, a reference or not, its type -/
def ol_tf (k : Nat) (x : String × String × String × Bool) (b : Bool) (ty : FieldType) : Prop := ∀ ci ∈ [1, 2, 3, 4, 5, 6, 7], ol_fd ci k = some x ∧ (ol_fk ci)[k]? = some b ∧ ol_ty ci k = ty
theorem ol_tf0 : ol_tf 0 ("ObjectLoads$Thing", "number", "I", true) false .int := by unfold ol_tf; decide
theorem ol_tf1 : ol_tf 1 ("ObjectLoads$Thing", "places", "[LObjectLoads$Thing;", true) true (.array (.object "ObjectLoads$Thing")) := by unfold ol_tf; decide
theorem ol_tf2 : ol_tf 2 ("ObjectLoads$Thing", "key", "I", false) false .int := by unfold ol_tf; decide
theorem ol_tf3 : ol_tf 3 ("ObjectLoads$Thing", "v", "I", false) false .int := by unfold ol_tf; decide
theorem ol_tf4 : ol_tf 4 ("ObjectLoads$Thing", "next", "LObjectLoads$Thing;", false) true (.object "ObjectLoads$Thing") := by unfold ol_tf; decide
theorem ol_tf5 : ol_tf 5 ("ObjectLoads$Thing", "held", "Z", false) false .boolean := by unfold ol_tf; decide
theorem ol_tf6 : ol_tf 6 ("ObjectLoads$Thing", "timesAsked", "I", false) false .int := by unfold ol_tf; decide
theorem ol_narq (C : String) (r : Option Nat) : narrow (.object C) (va_rf r) = va_rf r ∧ fits (.object C) (va_rf r) = true := by cases r <;> exact ⟨rfl, rfl⟩
theorem ol_nara (t : FieldType) (r : Option Nat) : narrow (.array t) (va_rf r) = va_rf r ∧ fits (.array t) (va_rf r) = true := by cases r <;> exact ⟨rfl, rfl⟩
def ol_b (b : Bool) : Int32 := if b = true then 1 else 0
theorem ol_b_t {b : Bool} (h : b = true) : ol_b b = 1 := by subst h; rfl
theorem ol_b_f {b : Bool} (h : b = false) : ol_b b = 0 := by subst h; rfl
theorem ol_b_nar (b : Bool) : narrow .boolean (.int (ol_b b)) = .int (ol_b b) := by cases b <;> rfl
theorem ol_b_fit (b : Bool) : fits .boolean (.int (ol_b b)) = true := by cases b <;> rfl
theorem ol_b_np (b : Bool) : vp_nar .boolean (ol_b b) = ol_b b := by cases b <;> rfl
section OLS
variable {p : Program} {l : Launch} {e : Env} {R : Room} {s : State} {m : MethodId} {args : Array Value} {below : List Frame} {meth : Method} {c : Code} {D : va_G} {cA : Nat → ClassId} {A : Nat → Prop} {Q : State → Prop} {nL : Nat} {ro : Nat → Nat} {I : Nat → Nat → Int32} {F : Nat → Nat → Option Nat} {cells slots pc : Nat} {lv : List (Option Value)} {rest : List Value} {cc : ByteArray} {own : String}
theorem ol_rf {r : Option Nat} {a : Nat} (h : r = some a) (kk : ol_W p l e R s m args below meth c D cA A Q nL ro I F cells slots pc lv (.ref a :: rest)) : ol_W p l e R s m args below meth c D cA A Q nL ro I F cells slots pc lv (va_rf r :: rest) := by subst h; exact kk
theorem ol_rfn {r : Option Nat} (h : r = none) (kk : ol_W p l e R s m args below meth c D cA A Q nL ro I F cells slots pc lv (.null :: rest)) : ol_W p l e R s m args below meth c D cA A Q nL ro I F cells slots pc lv (va_rf r :: rest) := by subst h; exact kk
theorem ol_st {st st' : List Value} (h : st = st') (kk : ol_W p l e R s m args below meth c D cA A Q nL ro I F cells slots pc lv st') : ol_W p l e R s m args below meth c D cA A Q nL ro I F cells slots pc lv st := by subst h; exact kk
theorem ol_ti {x y : Int32} (h : x = y) (kk : ol_W p l e R s m args below meth c D cA A Q nL ro I F cells slots pc lv (.int y :: rest)) : ol_W p l e R s m args below meth c D cA A Q nL ro I F cells slots pc lv (.int x :: rest) := by subst h; exact kk
theorem ol_mem {st : List Value} {I' : Nat → Nat → Int32} {F' : Nat → Nat → Option Nat} (h1 : I = I') (h2 : F = F') (kk : ol_W p l e R s m args below meth c D cA A Q nL ro I' F' cells slots pc lv st) : ol_W p l e R s m args below meth c D cA A Q nL ro I F cells slots pc lv st := by subst h1; subst h2; exact kk
theorem ol_gI {a ci k index : Nat} {ref dc nm ds : String} {fin : Bool} (C : ol_Cx p s m args c cc nL own D cA A) (hi : ol_is ro a (.inl ci)) (hfd : ol_fd ci k = some (dc, nm, ds, fin)) (hk : (ol_fk ci)[k]? = some false) (hlink : Cond.fieldLink own index ref nm ds ∈ ol_all) (hsm : ref = dc ∨ Cond.sameField ref dc nm ds ∈ ol_all) (hdg : decode cc pc = .ok (.getfield index, 3)) (kk : ol_W p l e R s m args below meth c D cA A Q nL ro I F cells slots (pc + 3) lv (.int (I a k) :: rest)) : ol_W p l e R s m args below meth c D cA A Q nL ro I F cells slots pc lv (.ref a :: rest) :=
  ol_getI C hi.1 hi.2 hfd hk hlink hsm hdg kk
theorem ol_gR {a ci k index : Nat} {ref dc nm ds : String} {fin : Bool} (C : ol_Cx p s m args c cc nL own D cA A) (hi : ol_is ro a (.inl ci)) (hfd : ol_fd ci k = some (dc, nm, ds, fin)) (hk : (ol_fk ci)[k]? = some true) (hlink : Cond.fieldLink own index ref nm ds ∈ ol_all) (hsm : ref = dc ∨ Cond.sameField ref dc nm ds ∈ ol_all) (hdg : decode cc pc = .ok (.getfield index, 3)) (kk : ol_W p l e R s m args below meth c D cA A Q nL ro I F cells slots (pc + 3) lv (va_rf (F a k) :: rest)) : ol_W p l e R s m args below meth c D cA A Q nL ro I F cells slots pc lv (.ref a :: rest) :=
  ol_getR C hi.1 hi.2 hfd hk hlink hsm hdg kk
theorem ol_pI {a ci k index : Nat} {ref dc nm ds : String} {v : Int32} (C : ol_Cx p s m args c cc nL own D cA A) (hi : ol_is ro a (.inl ci)) (hfd : ol_fd ci k = some (dc, nm, ds, false)) (hk : (ol_fk ci)[k]? = some false) (hlink : Cond.fieldLink own index ref nm ds ∈ ol_all) (hsm : ref = dc ∨ Cond.sameField ref dc nm ds ∈ ol_all) (hn : narrow (ol_ty ci k) (.int v) = .int v) (hfit : fits (ol_ty ci k) (.int v) = true) (hdg : decode cc pc = .ok (.putfield index, 3)) (kk : ol_W p l e R s m args below meth c D cA A Q nL ro (ol_u2 I a k v) F cells slots (pc + 3) lv rest) : ol_W p l e R s m args below meth c D cA A Q nL ro I F cells slots pc lv (.int v :: .ref a :: rest) :=
  ol_putI C hi.1 hi.2 hfd hk hlink hsm hn hfit hdg kk
theorem ol_pR {a ci k index : Nat} {ref dc nm ds : String} {r : Option Nat} {v : Value} (C : ol_Cx p s m args c cc nL own D cA A) (hv : v = va_rf r) (hi : ol_is ro a (.inl ci)) (hfd : ol_fd ci k = some (dc, nm, ds, false)) (hk : (ol_fk ci)[k]? = some true) (hlink : Cond.fieldLink own index ref nm ds ∈ ol_all) (hsm : ref = dc ∨ Cond.sameField ref dc nm ds ∈ ol_all) (hn : narrow (ol_ty ci k) (va_rf r) = va_rf r ∧ fits (ol_ty ci k) (va_rf r) = true) (hdg : decode cc pc = .ok (.putfield index, 3)) (kk : ol_W p l e R s m args below meth c D cA A Q nL ro I (ol_u2 F a k r) cells slots (pc + 3) lv rest) : ol_W p l e R s m args below meth c D cA A Q nL ro I F cells slots pc lv (v :: .ref a :: rest) :=
  ol_putR C hv hi.1 hi.2 hfd hk hlink hsm hn.1 hn.2 hdg kk
theorem ol_pIF {a ci k index : Nat} {ref dc nm ds : String} {v : Int32} (C : ol_Cx p s m args c cc nL own D cA A) (hi : ol_is ro a (.inl ci)) (hfd : ol_fd ci k = some (dc, nm, ds, true)) (hk : (ol_fk ci)[k]? = some false) (hlink : Cond.fieldLink own index ref nm ds ∈ ol_all) (hsm : ref = dc ∨ Cond.sameField ref dc nm ds ∈ ol_all) (hin : meth.name = "<init>") (hdc : dc = own) (hn : narrow (ol_ty ci k) (.int v) = .int v) (hfit : fits (ol_ty ci k) (.int v) = true) (hdg : decode cc pc = .ok (.putfield index, 3)) (kk : ol_W p l e R s m args below meth c D cA A Q nL ro (ol_u2 I a k v) F cells slots (pc + 3) lv rest) : ol_W p l e R s m args below meth c D cA A Q nL ro I F cells slots pc lv (.int v :: .ref a :: rest) :=
  ol_putIF C hi.1 hi.2 hfd hk hlink hsm hin hdc hn hfit hdg kk
theorem ol_pRF {a ci k index : Nat} {ref dc nm ds : String} {r : Option Nat} {v : Value} (C : ol_Cx p s m args c cc nL own D cA A) (hv : v = va_rf r) (hi : ol_is ro a (.inl ci)) (hfd : ol_fd ci k = some (dc, nm, ds, true)) (hk : (ol_fk ci)[k]? = some true) (hlink : Cond.fieldLink own index ref nm ds ∈ ol_all) (hsm : ref = dc ∨ Cond.sameField ref dc nm ds ∈ ol_all) (hin : meth.name = "<init>") (hdc : dc = own) (hn : narrow (ol_ty ci k) (va_rf r) = va_rf r ∧ fits (ol_ty ci k) (va_rf r) = true) (hdg : decode cc pc = .ok (.putfield index, 3)) (kk : ol_W p l e R s m args below meth c D cA A Q nL ro I (ol_u2 F a k r) cells slots (pc + 3) lv rest) : ol_W p l e R s m args below meth c D cA A Q nL ro I F cells slots pc lv (v :: .ref a :: rest) :=
  ol_putRF C hv hi.1 hi.2 hfd hk hlink hsm hin hdc hn.1 hn.2 hdg kk
theorem ol_tgI {a k index : Nat} {ref dc nm ds : String} {fin : Bool} {ty : FieldType} (C : ol_Cx p s m args c cc nL own D cA A) (ht : ol_th ro a) (hf : ol_tf k (dc, nm, ds, fin) false ty) (hlink : Cond.fieldLink own index ref nm ds ∈ ol_all) (hsm : ref = dc ∨ Cond.sameField ref dc nm ds ∈ ol_all) (hdg : decode cc pc = .ok (.getfield index, 3)) (kk : ol_W p l e R s m args below meth c D cA A Q nL ro I F cells slots (pc + 3) lv (.int (I a k) :: rest)) : ol_W p l e R s m args below meth c D cA A Q nL ro I F cells slots pc lv (.ref a :: rest) := by
  obtain ⟨h0, ci, h1, h2⟩ := ol_th_ct ht
  exact ol_getI C h0 h2 (hf ci h1).1 (hf ci h1).2.1 hlink hsm hdg kk
theorem ol_tgR {a k index : Nat} {ref dc nm ds : String} {fin : Bool} {ty : FieldType} (C : ol_Cx p s m args c cc nL own D cA A) (ht : ol_th ro a) (hf : ol_tf k (dc, nm, ds, fin) true ty) (hlink : Cond.fieldLink own index ref nm ds ∈ ol_all) (hsm : ref = dc ∨ Cond.sameField ref dc nm ds ∈ ol_all) (hdg : decode cc pc = .ok (.getfield index, 3)) (kk : ol_W p l e R s m args below meth c D cA A Q nL ro I F cells slots (pc + 3) lv (va_rf (F a k) :: rest)) : ol_W p l e R s m args below meth c D cA A Q nL ro I F cells slots pc lv (.ref a :: rest) := by
  obtain ⟨h0, ci, h1, h2⟩ := ol_th_ct ht
  exact ol_getR C h0 h2 (hf ci h1).1 (hf ci h1).2.1 hlink hsm hdg kk
theorem ol_tpI {a k index : Nat} {ref dc nm ds : String} {v : Int32} {ty : FieldType} (C : ol_Cx p s m args c cc nL own D cA A) (ht : ol_th ro a) (hf : ol_tf k (dc, nm, ds, false) false ty) (hlink : Cond.fieldLink own index ref nm ds ∈ ol_all) (hsm : ref = dc ∨ Cond.sameField ref dc nm ds ∈ ol_all) (hn : narrow ty (.int v) = .int v) (hfit : fits ty (.int v) = true) (hdg : decode cc pc = .ok (.putfield index, 3)) (kk : ol_W p l e R s m args below meth c D cA A Q nL ro (ol_u2 I a k v) F cells slots (pc + 3) lv rest) : ol_W p l e R s m args below meth c D cA A Q nL ro I F cells slots pc lv (.int v :: .ref a :: rest) := by
  obtain ⟨h0, ci, h1, h2⟩ := ol_th_ct ht
  exact ol_putI C h0 h2 (hf ci h1).1 (hf ci h1).2.1 hlink hsm (by rw [(hf ci h1).2.2]; exact hn) (by rw [(hf ci h1).2.2]; exact hfit) hdg kk
theorem ol_tpR {a k index : Nat} {ref dc nm ds : String} {r : Option Nat} {v : Value} {ty : FieldType} (C : ol_Cx p s m args c cc nL own D cA A) (hv : v = va_rf r) (ht : ol_th ro a) (hf : ol_tf k (dc, nm, ds, false) true ty) (hlink : Cond.fieldLink own index ref nm ds ∈ ol_all) (hsm : ref = dc ∨ Cond.sameField ref dc nm ds ∈ ol_all) (hn : narrow ty (va_rf r) = va_rf r ∧ fits ty (va_rf r) = true) (hdg : decode cc pc = .ok (.putfield index, 3)) (kk : ol_W p l e R s m args below meth c D cA A Q nL ro I (ol_u2 F a k r) cells slots (pc + 3) lv rest) : ol_W p l e R s m args below meth c D cA A Q nL ro I F cells slots pc lv (v :: .ref a :: rest) := by
  obtain ⟨h0, ci, h1, h2⟩ := ol_th_ct ht
  exact ol_putR C hv h0 h2 (hf ci h1).1 (hf ci h1).2.1 hlink hsm (by rw [(hf ci h1).2.2]; exact hn.1) (by rw [(hf ci h1).2.2]; exact hn.2) hdg kk
theorem ol_tpIF {a k index : Nat} {ref dc nm ds : String} {v : Int32} {ty : FieldType} (C : ol_Cx p s m args c cc nL own D cA A) (ht : ol_th ro a) (hf : ol_tf k (dc, nm, ds, true) false ty) (hlink : Cond.fieldLink own index ref nm ds ∈ ol_all) (hsm : ref = dc ∨ Cond.sameField ref dc nm ds ∈ ol_all) (hin : meth.name = "<init>") (hdc : dc = own) (hn : narrow ty (.int v) = .int v) (hfit : fits ty (.int v) = true) (hdg : decode cc pc = .ok (.putfield index, 3)) (kk : ol_W p l e R s m args below meth c D cA A Q nL ro (ol_u2 I a k v) F cells slots (pc + 3) lv rest) : ol_W p l e R s m args below meth c D cA A Q nL ro I F cells slots pc lv (.int v :: .ref a :: rest) := by
  obtain ⟨h0, ci, h1, h2⟩ := ol_th_ct ht
  exact ol_putIF C h0 h2 (hf ci h1).1 (hf ci h1).2.1 hlink hsm hin hdc (by rw [(hf ci h1).2.2]; exact hn) (by rw [(hf ci h1).2.2]; exact hfit) hdg kk
theorem ol_tpRF {a k index : Nat} {ref dc nm ds : String} {r : Option Nat} {v : Value} {ty : FieldType} (C : ol_Cx p s m args c cc nL own D cA A) (hv : v = va_rf r) (ht : ol_th ro a) (hf : ol_tf k (dc, nm, ds, true) true ty) (hlink : Cond.fieldLink own index ref nm ds ∈ ol_all) (hsm : ref = dc ∨ Cond.sameField ref dc nm ds ∈ ol_all) (hin : meth.name = "<init>") (hdc : dc = own) (hn : narrow ty (va_rf r) = va_rf r ∧ fits ty (va_rf r) = true) (hdg : decode cc pc = .ok (.putfield index, 3)) (kk : ol_W p l e R s m args below meth c D cA A Q nL ro I (ol_u2 F a k r) cells slots (pc + 3) lv rest) : ol_W p l e R s m args below meth c D cA A Q nL ro I F cells slots pc lv (v :: .ref a :: rest) := by
  obtain ⟨h0, ci, h1, h2⟩ := ol_th_ct ht
  exact ol_putRF C hv h0 h2 (hf ci h1).1 (hf ci h1).2.1 hlink hsm hin hdc (by rw [(hf ci h1).2.2]; exact hn.1) (by rw [(hf ci h1).2.2]; exact hn.2) hdg kk
/-! arrays at the number k -/
theorem ol_nin {i : Int32} {k n : Nat} (hik : i = nI k) (hk : k < n) (hn : n < 2 ^ 31) : vp_in i n ∧ i.toNatClampNeg = k := by
  subst hik
  exact ⟨vp_in_nI hk hn, nI_clamp (by omega)⟩
theorem ol_lI {a n : Nat} {i : Int32} (k : Nat) (C : ol_Cx p s m args c cc nL own D cA A) (hi : ol_is ro a (.inr (0, n))) (hik : i = nI k) (hk : k < n) (hn : n < 2 ^ 31) (hdg : decode cc pc = .ok (.iaload, 1)) (kk : ol_W p l e R s m args below meth c D cA A Q nL ro I F cells slots (pc + 1) lv (.int (I a k) :: rest)) : ol_W p l e R s m args below meth c D cA A Q nL ro I F cells slots pc lv (.int i :: .ref a :: rest) := by
  obtain ⟨h1, h2⟩ := ol_nin hik hk hn
  exact ol_iald C hi.1 hi.2 h1 hdg (by rw [h2]; exact kk)
theorem ol_lZ {a n : Nat} {i : Int32} (k : Nat) (C : ol_Cx p s m args c cc nL own D cA A) (hi : ol_is ro a (.inr (1, n))) (hik : i = nI k) (hk : k < n) (hn : n < 2 ^ 31) (hdg : decode cc pc = .ok (.baload, 1)) (kk : ol_W p l e R s m args below meth c D cA A Q nL ro I F cells slots (pc + 1) lv (.int (I a k) :: rest)) : ol_W p l e R s m args below meth c D cA A Q nL ro I F cells slots pc lv (.int i :: .ref a :: rest) := by
  obtain ⟨h1, h2⟩ := ol_nin hik hk hn
  exact ol_zald C hi.1 hi.2 h1 hdg (by rw [h2]; exact kk)
theorem ol_lT {a n : Nat} {i : Int32} (k : Nat) (C : ol_Cx p s m args c cc nL own D cA A) (hi : ol_is ro a (.inr (2, n))) (hik : i = nI k) (hk : k < n) (hn : n < 2 ^ 31) (hdg : decode cc pc = .ok (.aaload, 1)) (kk : ol_W p l e R s m args below meth c D cA A Q nL ro I F cells slots (pc + 1) lv (va_rf (F a k) :: rest)) : ol_W p l e R s m args below meth c D cA A Q nL ro I F cells slots pc lv (.int i :: .ref a :: rest) := by
  obtain ⟨h1, h2⟩ := ol_nin hik hk hn
  exact ol_aald C hi.1 hi.2 rfl rfl h1 hdg (by rw [h2]; exact kk)
theorem ol_lN {a n : Nat} {i : Int32} (k : Nat) (C : ol_Cx p s m args c cc nL own D cA A) (hi : ol_is ro a (.inr (3, n))) (hik : i = nI k) (hk : k < n) (hn : n < 2 ^ 31) (hdg : decode cc pc = .ok (.aaload, 1)) (kk : ol_W p l e R s m args below meth c D cA A Q nL ro I F cells slots (pc + 1) lv (va_rf (F a k) :: rest)) : ol_W p l e R s m args below meth c D cA A Q nL ro I F cells slots pc lv (.int i :: .ref a :: rest) := by
  obtain ⟨h1, h2⟩ := ol_nin hik hk hn
  exact ol_aald C hi.1 hi.2 rfl rfl h1 hdg (by rw [h2]; exact kk)
theorem ol_sI {a n : Nat} {i x : Int32} (k : Nat) (C : ol_Cx p s m args c cc nL own D cA A) (hi : ol_is ro a (.inr (0, n))) (hik : i = nI k) (hk : k < n) (hn : n < 2 ^ 31) (hdg : decode cc pc = .ok (.iastore, 1)) (kk : ol_W p l e R s m args below meth c D cA A Q nL ro (ol_u2 I a k x) F cells slots (pc + 1) lv rest) : ol_W p l e R s m args below meth c D cA A Q nL ro I F cells slots pc lv (.int x :: .int i :: .ref a :: rest) := by
  obtain ⟨h1, h2⟩ := ol_nin hik hk hn
  exact ol_iast C hi.1 hi.2 h1 hdg (by rw [h2]; exact kk)
theorem ol_sZ {a n : Nat} {i x : Int32} (k : Nat) (C : ol_Cx p s m args c cc nL own D cA A) (hi : ol_is ro a (.inr (1, n))) (hik : i = nI k) (hk : k < n) (hn : n < 2 ^ 31) (hx : vp_nar .boolean x = x) (hdg : decode cc pc = .ok (.bastore, 1)) (kk : ol_W p l e R s m args below meth c D cA A Q nL ro (ol_u2 I a k x) F cells slots (pc + 1) lv rest) : ol_W p l e R s m args below meth c D cA A Q nL ro I F cells slots pc lv (.int x :: .int i :: .ref a :: rest) := by
  obtain ⟨h1, h2⟩ := ol_nin hik hk hn
  exact ol_zast C hi.1 hi.2 h1 hx hdg (by rw [h2]; exact kk)
theorem ol_th_cast {b : Nat} (h : ol_th ro b) : ro b ≠ 0 ∧ ∃ ci q, ol_ct (ro b) = .inl ci ∧ ol_cl[ci]? = some q ∧ Cond.castable q.1 "ObjectLoads$Thing" ∈ ol_n1 := by
  obtain ⟨h1, h2⟩ := h
  refine ⟨by omega, ?_⟩
  have h3 : ro b = 2 ∨ ro b = 3 ∨ ro b = 4 ∨ ro b = 5 ∨ ro b = 6 ∨ ro b = 7 ∨ ro b = 8 := by omega
  rcases h3 with h | h | h | h | h | h | h <;> rw [h] <;> exact ⟨_, _, rfl, rfl, by decide⟩
theorem ol_nd_cast {b : Nat} (h : ol_th ro b) (hb : ro b ≠ 4) : ro b ≠ 0 ∧ ∃ ci q, ol_ct (ro b) = .inl ci ∧ ol_cl[ci]? = some q ∧ Cond.castable q.1 "ObjectLoads$Node" ∈ ol_n1 := by
  obtain ⟨h1, h2⟩ := h
  refine ⟨by omega, ?_⟩
  have h3 : ro b = 2 ∨ ro b = 3 ∨ ro b = 5 ∨ ro b = 6 ∨ ro b = 7 ∨ ro b = 8 := by omega
  rcases h3 with h | h | h | h | h | h <;> rw [h] <;> exact ⟨_, _, rfl, rfl, by decide⟩
theorem ol_sT {a n : Nat} {i : Int32} {r : Option Nat} {v : Value} (k : Nat) (C : ol_Cx p s m args c cc nL own D cA A) (hv : v = va_rf r) (hi : ol_is ro a (.inr (2, n))) (hik : i = nI k) (hk : k < n) (hn : n < 2 ^ 31) (hc : ∀ b, r = some b → ol_th ro b) (hdg : decode cc pc = .ok (.aastore, 1)) (kk : ol_W p l e R s m args below meth c D cA A Q nL ro I (ol_u2 F a k r) cells slots (pc + 1) lv rest) : ol_W p l e R s m args below meth c D cA A Q nL ro I F cells slots pc lv (v :: .int i :: .ref a :: rest) := by
  obtain ⟨h1, h2⟩ := ol_nin hik hk hn
  exact ol_aast C hv hi.1 hi.2 rfl rfl h1 (fun b hb => ol_th_cast (hc b hb)) hdg (by rw [h2]; exact kk)
theorem ol_sN {a n : Nat} {i : Int32} {r : Option Nat} {v : Value} (k : Nat) (C : ol_Cx p s m args c cc nL own D cA A) (hv : v = va_rf r) (hi : ol_is ro a (.inr (3, n))) (hik : i = nI k) (hk : k < n) (hn : n < 2 ^ 31) (hc : ∀ b, r = some b → ol_th ro b ∧ ro b ≠ 4) (hdg : decode cc pc = .ok (.aastore, 1)) (kk : ol_W p l e R s m args below meth c D cA A Q nL ro I (ol_u2 F a k r) cells slots (pc + 1) lv rest) : ol_W p l e R s m args below meth c D cA A Q nL ro I F cells slots pc lv (v :: .int i :: .ref a :: rest) := by
  obtain ⟨h1, h2⟩ := ol_nin hik hk hn
  exact ol_aast C hv hi.1 hi.2 rfl rfl h1 (fun b hb => ol_nd_cast (hc b hb).1 (hc b hb).2) hdg (by rw [h2]; exact kk)
/-! what is behind a call, by the kind of its answer -/
theorem ol_ki {rest : List Value} {cells slots pc : Nat} {post : Int32 → (Nat → Nat) → (Nat → Nat → Int32) → (Nat → Nat → Option Nat) → Prop} (kk : ∀ (r : Int32) (ro' : Nat → Nat) (I' : Nat → Nat → Int32) (F' : Nat → Nat → Option Nat), post r ro' I' F' → ol_W p l e R s m args below meth c D cA A Q nL ro' I' F' cells slots pc lv (.int r :: rest)) : ∀ (v : Option Value) (ro' : Nat → Nat) (I' : Nat → Nat → Int32) (F' : Nat → Nat → Option Nat), (∃ r, v = some (.int r) ∧ post r ro' I' F') → ol_W p l e R s m args below meth c D cA A Q nL ro' I' F' cells slots pc lv (v.toList ++ rest) := by
  rintro v ro' I' F' ⟨r, rfl, h⟩
  exact kk r ro' I' F' h
theorem ol_kq {rest : List Value} {cells slots pc : Nat} {post : Option Nat → (Nat → Nat) → (Nat → Nat → Int32) → (Nat → Nat → Option Nat) → Prop} (kk : ∀ (r : Option Nat) (ro' : Nat → Nat) (I' : Nat → Nat → Int32) (F' : Nat → Nat → Option Nat), post r ro' I' F' → ol_W p l e R s m args below meth c D cA A Q nL ro' I' F' cells slots pc lv (va_rf r :: rest)) : ∀ (v : Option Value) (ro' : Nat → Nat) (I' : Nat → Nat → Int32) (F' : Nat → Nat → Option Nat), (∃ r, v = some (va_rf r) ∧ post r ro' I' F') → ol_W p l e R s m args below meth c D cA A Q nL ro' I' F' cells slots pc lv (v.toList ++ rest) := by
  rintro v ro' I' F' ⟨r, rfl, h⟩
  exact kk r ro' I' F' h
theorem ol_kv {rest : List Value} {cells slots pc : Nat} {post : (Nat → Nat) → (Nat → Nat → Int32) → (Nat → Nat → Option Nat) → Prop} (kk : ∀ (ro' : Nat → Nat) (I' : Nat → Nat → Int32) (F' : Nat → Nat → Option Nat), post ro' I' F' → ol_W p l e R s m args below meth c D cA A Q nL ro' I' F' cells slots pc lv rest) : ∀ (v : Option Value) (ro' : Nat → Nat) (I' : Nat → Nat → Int32) (F' : Nat → Nat → Option Nat), (v = none ∧ post ro' I' F') → ol_W p l e R s m args below meth c D cA A Q nL ro' I' F' cells slots pc lv (v.toList ++ rest) := by
  rintro v ro' I' F' ⟨rfl, h⟩
  exact kk ro' I' F' h
end OLS
/-- exact contracts: the answer, the roles, the ints, the references behind the call -/
def ol_ei (r : Int32) (ro : Nat → Nat) (I : Nat → Nat → Int32) (F : Nat → Nat → Option Nat) : Option Value → (Nat → Nat) → (Nat → Nat → Int32) → (Nat → Nat → Option Nat) → Prop := fun v ro' I' F' => v = some (.int r) ∧ ro' = ro ∧ I' = I ∧ F' = F
def ol_eq (r : Option Nat) (ro : Nat → Nat) (I : Nat → Nat → Int32) (F : Nat → Nat → Option Nat) : Option Value → (Nat → Nat) → (Nat → Nat → Int32) → (Nat → Nat → Option Nat) → Prop := fun v ro' I' F' => v = some (va_rf r) ∧ ro' = ro ∧ I' = I ∧ F' = F
def ol_ev (ro : Nat → Nat) (I : Nat → Nat → Int32) (F : Nat → Nat → Option Nat) : Option Value → (Nat → Nat) → (Nat → Nat → Int32) → (Nat → Nat → Option Nat) → Prop := fun v ro' I' F' => v = none ∧ ro' = ro ∧ I' = I ∧ F' = F
section OLX
variable {p : Program} {l : Launch} {e : Env} {R : Room} {s : State} {m : MethodId} {args : Array Value} {below : List Frame} {meth : Method} {c : Code} {D : va_G} {cA : Nat → ClassId} {A : Nat → Prop} {Q : State → Prop} {nL : Nat} {ro : Nat → Nat} {I : Nat → Nat → Int32} {F : Nat → Nat → Option Nat} {cells slots pc : Nat} {lv : List (Option Value)} {rest : List Value}
theorem ol_xi {r : Int32} (kk : ol_W p l e R s m args below meth c D cA A Q nL ro I F cells slots pc lv (.int r :: rest)) : ∀ (v : Option Value) (ro' : Nat → Nat) (I' : Nat → Nat → Int32) (F' : Nat → Nat → Option Nat), ol_ei r ro I F v ro' I' F' → ol_W p l e R s m args below meth c D cA A Q nL ro' I' F' cells slots pc lv (v.toList ++ rest) := by
  rintro v ro' I' F' ⟨rfl, rfl, rfl, rfl⟩
  exact kk
theorem ol_xq {r : Option Nat} (kk : ol_W p l e R s m args below meth c D cA A Q nL ro I F cells slots pc lv (va_rf r :: rest)) : ∀ (v : Option Value) (ro' : Nat → Nat) (I' : Nat → Nat → Int32) (F' : Nat → Nat → Option Nat), ol_eq r ro I F v ro' I' F' → ol_W p l e R s m args below meth c D cA A Q nL ro' I' F' cells slots pc lv (v.toList ++ rest) := by
  rintro v ro' I' F' ⟨rfl, rfl, rfl, rfl⟩
  exact kk
theorem ol_xv (kk : ol_W p l e R s m args below meth c D cA A Q nL ro I F cells slots pc lv rest) : ∀ (v : Option Value) (ro' : Nat → Nat) (I' : Nat → Nat → Int32) (F' : Nat → Nat → Option Nat), ol_ev ro I F v ro' I' F' → ol_W p l e R s m args below meth c D cA A Q nL ro' I' F' cells slots pc lv (v.toList ++ rest) := by
  rintro v ro' I' F' ⟨rfl, rfl, rfl, rfl⟩
  exact kk
end OLX
