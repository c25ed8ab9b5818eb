/-! THE ROWS of the layer, an instruction each -/
section OLR
variable {p : Program} {l : Launch} {e : Env} {R : Room} {s : State} {m : MethodId} {args : Array Value} {below : List Frame} {meth : Method} {c : Code} {D : va_G} {cA : Nat → ClassId} {A : Nat → Prop} {Q : State → Prop} {nL : Nat} {ro : Nat → Nat} {I : Nat → Nat → Int32} {F : Nat → Nat → Option Nat} {cells slots pc : Nat} {lv : List (Option Value)} {rest : List Value} {cc : ByteArray} {own : String}
theorem ol_widen {k n : Nat} {st : List Value} (h1 : cells ≤ k) (h2 : slots ≤ n) (kk : ol_W p l e R s m args below meth c D cA A Q nL ro I F k n pc lv st) : ol_W p l e R s m args below meth c D cA A Q nL ro I F cells slots pc lv st :=
  fun H locs ls hP hS hl => W.widen h1 h2 (kk H locs ls hP hS hl)
theorem ol_lv {st : List Value} {lv' : List (Option Value)} (hs : ∀ (i : Nat) (v : Value), lv'[i]? = some (some v) → lv[i]? = some (some v)) (kk : ol_W p l e R s m args below meth c D cA A Q nL ro I F cells slots pc lv' st) : ol_W p l e R s m args below meth c D cA A Q nL ro I F cells slots pc lv st :=
  fun H locs ls hP hS hl => kk H locs ls hP hS (hl.sub hs)
theorem ol_iconst {n : Int} {v : Int32} (C : ol_Cx p s m args c cc nL own D cA A) (hdg : decode cc pc = .ok (.iconst n, 1)) (hv : Int32.ofInt n = v) (kk : ol_W p l e R s m args below meth c D cA A Q nL ro I F cells slots (pc + 1) lv (.int v :: rest)) : ol_W p l e R s m args below meth c D cA A Q nL ro I F cells slots pc lv rest :=
  fun H locs ls hP hS hl => lv_iconst C.1 C.2.1 hdg hv (kk H locs ls hP hS hl)
theorem ol_bipush {n : Int} {v : Int32} (C : ol_Cx p s m args c cc nL own D cA A) (hdg : decode cc pc = .ok (.bipush n, 2)) (hv : (Int8.ofInt n).toInt32 = v) (kk : ol_W p l e R s m args below meth c D cA A Q nL ro I F cells slots (pc + 2) lv (.int v :: rest)) : ol_W p l e R s m args below meth c D cA A Q nL ro I F cells slots pc lv rest :=
  fun H locs ls hP hS hl => lv_bipush C.1 C.2.1 hdg hv (kk H locs ls hP hS hl)
theorem ol_sipush {n : Int} {v : Int32} (C : ol_Cx p s m args c cc nL own D cA A) (hdg : decode cc pc = .ok (.sipush n, 3)) (hv : (Int16.ofInt n).toInt32 = v) (kk : ol_W p l e R s m args below meth c D cA A Q nL ro I F cells slots (pc + 3) lv (.int v :: rest)) : ol_W p l e R s m args below meth c D cA A Q nL ro I F cells slots pc lv rest :=
  fun H locs ls hP hS hl => lv_sipush C.1 C.2.1 hdg hv (kk H locs ls hP hS hl)
theorem ol_ldc {index : Nat} {v : Int32} (C : ol_Cx p s m args c cc nL own D cA A) (hw : Cond.constant own index v ∈ ol_all) (hdg : decode cc pc = .ok (.ldc index, 2)) (kk : ol_W p l e R s m args below meth c D cA A Q nL ro I F cells slots (pc + 2) lv (.int v :: rest)) : ol_W p l e R s m args below meth c D cA A Q nL ro I F cells slots pc lv rest :=
  fun H locs ls hP hS hl => lv_ldc C.1 C.2.1 C.2.2.2.1 (C.2.2.2.2.1 _ hw) hdg (kk H locs ls hP hS hl)
theorem ol_null (C : ol_Cx p s m args c cc nL own D cA A) (hdg : decode cc pc = .ok (.aconst_null, 1)) (kk : ol_W p l e R s m args below meth c D cA A Q nL ro I F cells slots (pc + 1) lv (.null :: rest)) : ol_W p l e R s m args below meth c D cA A Q nL ro I F cells slots pc lv rest :=
  fun H locs ls hP hS hl => lv_null C.1 C.2.1 hdg (kk H locs ls hP hS hl)
theorem ol_iload_n {k : Fin 4} {i : Nat} {x : Int32} (C : ol_Cx p s m args c cc nL own D cA A) (hdg : decode cc pc = .ok (.iload_n k, 1)) (hi : (k : Nat) = i) (hv : lv[i]? = some (some (.int x))) (kk : ol_W p l e R s m args below meth c D cA A Q nL ro I F cells slots (pc + 1) lv (.int x :: rest)) : ol_W p l e R s m args below meth c D cA A Q nL ro I F cells slots pc lv rest :=
  fun H locs ls hP hS hl => lv_iload_n C.1 C.2.1 hdg hi (hl.at hv) (kk H locs ls hP hS hl)
theorem ol_iload {i : Nat} {x : Int32} (C : ol_Cx p s m args c cc nL own D cA A) (hdg : decode cc pc = .ok (.iload i, 2)) (hv : lv[i]? = some (some (.int x))) (kk : ol_W p l e R s m args below meth c D cA A Q nL ro I F cells slots (pc + 2) lv (.int x :: rest)) : ol_W p l e R s m args below meth c D cA A Q nL ro I F cells slots pc lv rest :=
  fun H locs ls hP hS hl => lv_iload C.1 C.2.1 hdg (hl.at hv) (kk H locs ls hP hS hl)
theorem ol_aload_n {k : Fin 4} {i : Nat} {v : Value} (C : ol_Cx p s m args c cc nL own D cA A) (hdg : decode cc pc = .ok (.aload_n k, 1)) (hi : (k : Nat) = i) (hv : lv[i]? = some (some v)) (hq : ol_isq v) (kk : ol_W p l e R s m args below meth c D cA A Q nL ro I F cells slots (pc + 1) lv (v :: rest)) : ol_W p l e R s m args below meth c D cA A Q nL ro I F cells slots pc lv rest := by
  intro H locs ls hP hS hl
  obtain ⟨r, rfl⟩ := hq
  cases r with
  | none => exact lv_aload_nN C.1 C.2.1 hdg hi (hl.at hv) (kk H locs ls hP hS hl)
  | some a => exact lv_aload_n C.1 C.2.1 hdg hi (hl.at hv) (kk H locs ls hP hS hl)
theorem ol_aload {i : Nat} {v : Value} (C : ol_Cx p s m args c cc nL own D cA A) (hdg : decode cc pc = .ok (.aload i, 2)) (hv : lv[i]? = some (some v)) (hq : ol_isq v) (kk : ol_W p l e R s m args below meth c D cA A Q nL ro I F cells slots (pc + 2) lv (v :: rest)) : ol_W p l e R s m args below meth c D cA A Q nL ro I F cells slots pc lv rest := by
  intro H locs ls hP hS hl
  obtain ⟨r, rfl⟩ := hq
  cases r with
  | none => exact lv_aloadN C.1 C.2.1 hdg (hl.at hv) (kk H locs ls hP hS hl)
  | some a => exact lv_aload C.1 C.2.1 hdg (hl.at hv) (kk H locs ls hP hS hl)
theorem ol_istore_n {k : Fin 4} {i : Nat} {x : Int32} (C : ol_Cx p s m args c cc nL own D cA A) (hdg : decode cc pc = .ok (.istore_n k, 1)) (hi : (k : Nat) = i) (hn : i < nL) (kk : ol_W p l e R s m args below meth c D cA A Q nL ro I F cells slots (pc + 1) (lv.set i (some (.int x))) rest) : ol_W p l e R s m args below meth c D cA A Q nL ro I F cells slots pc lv (.int x :: rest) :=
  fun H locs ls hP hS hl => lv_istore_n C.1 C.2.1 hdg hi hl.1 hn rfl (fun ls' hl' => kk H locs ls' hP hS (hl.store rfl hl'))
theorem ol_istore {i : Nat} {x : Int32} (C : ol_Cx p s m args c cc nL own D cA A) (hdg : decode cc pc = .ok (.istore i, 2)) (hn : i < nL) (kk : ol_W p l e R s m args below meth c D cA A Q nL ro I F cells slots (pc + 2) (lv.set i (some (.int x))) rest) : ol_W p l e R s m args below meth c D cA A Q nL ro I F cells slots pc lv (.int x :: rest) :=
  fun H locs ls hP hS hl => lv_istore C.1 C.2.1 hdg hl.1 hn rfl (fun ls' hl' => kk H locs ls' hP hS (hl.store rfl hl'))
theorem ol_astore_n {k : Fin 4} {i : Nat} {v : Value} (C : ol_Cx p s m args c cc nL own D cA A) (hdg : decode cc pc = .ok (.astore_n k, 1)) (hi : (k : Nat) = i) (hn : i < nL) (hq : ol_isq v) (kk : ol_W p l e R s m args below meth c D cA A Q nL ro I F cells slots (pc + 1) (lv.set i (some v)) rest) : ol_W p l e R s m args below meth c D cA A Q nL ro I F cells slots pc lv (v :: rest) := by
  intro H locs ls hP hS hl
  obtain ⟨r, rfl⟩ := hq
  cases r with
  | none => exact lv_astore_nN C.1 C.2.1 hdg hi hl.1 hn rfl (fun ls' hl' => kk H locs ls' hP hS (hl.store rfl hl'))
  | some a => exact lv_astore_n C.1 C.2.1 hdg hi hl.1 hn rfl (fun ls' hl' => kk H locs ls' hP hS (hl.store rfl hl'))
theorem ol_astore {i : Nat} {v : Value} (C : ol_Cx p s m args c cc nL own D cA A) (hdg : decode cc pc = .ok (.astore i, 2)) (hn : i < nL) (hq : ol_isq v) (kk : ol_W p l e R s m args below meth c D cA A Q nL ro I F cells slots (pc + 2) (lv.set i (some v)) rest) : ol_W p l e R s m args below meth c D cA A Q nL ro I F cells slots pc lv (v :: rest) := by
  intro H locs ls hP hS hl
  obtain ⟨r, rfl⟩ := hq
  cases r with
  | none => exact lv_astoreN C.1 C.2.1 hdg hl.1 hn rfl (fun ls' hl' => kk H locs ls' hP hS (hl.store rfl hl'))
  | some a => exact lv_astore C.1 C.2.1 hdg hl.1 hn rfl (fun ls' hl' => kk H locs ls' hP hS (hl.store rfl hl'))
theorem ol_iinc {i : Nat} {n : Int} {x v : Int32} (C : ol_Cx p s m args c cc nL own D cA A) (hdg : decode cc pc = .ok (.iinc i n, 3)) (hx : lv[i]? = some (some (.int x))) (hv : x + Int32.ofInt n = v) (hn : i < nL) (kk : ol_W p l e R s m args below meth c D cA A Q nL ro I F cells slots (pc + 3) (lv.set i (some (.int v))) rest) : ol_W p l e R s m args below meth c D cA A Q nL ro I F cells slots pc lv rest := by
  intro H locs ls hP hS hl
  obtain ⟨k, hk⟩ := List.getElem?_of_mem ((ol_las_mem lv 0 i (.int x)).mpr ⟨Nat.zero_le _, hx⟩)
  exact lv_iinc C.1 C.2.1 hdg hl.1 hk hv hn rfl (fun ls' hl' => kk H locs ls' hP hS (hl.store rfl hl'))
theorem ol_iadd {x y : Int32} (C : ol_Cx p s m args c cc nL own D cA A) (hdg : decode cc pc = .ok (.iadd, 1)) (kk : ol_W p l e R s m args below meth c D cA A Q nL ro I F cells slots (pc + 1) lv (.int (x + y) :: rest)) : ol_W p l e R s m args below meth c D cA A Q nL ro I F cells slots pc lv (.int y :: .int x :: rest) :=
  fun H locs ls hP hS hl => lv_iadd C.1 C.2.1 hdg (kk H locs ls hP hS hl)
theorem ol_isub {x y : Int32} (C : ol_Cx p s m args c cc nL own D cA A) (hdg : decode cc pc = .ok (.isub, 1)) (kk : ol_W p l e R s m args below meth c D cA A Q nL ro I F cells slots (pc + 1) lv (.int (x - y) :: rest)) : ol_W p l e R s m args below meth c D cA A Q nL ro I F cells slots pc lv (.int y :: .int x :: rest) :=
  fun H locs ls hP hS hl => lv_isub C.1 C.2.1 hdg (kk H locs ls hP hS hl)
theorem ol_imul {x y : Int32} (C : ol_Cx p s m args c cc nL own D cA A) (hdg : decode cc pc = .ok (.imul, 1)) (kk : ol_W p l e R s m args below meth c D cA A Q nL ro I F cells slots (pc + 1) lv (.int (x * y) :: rest)) : ol_W p l e R s m args below meth c D cA A Q nL ro I F cells slots pc lv (.int y :: .int x :: rest) :=
  fun H locs ls hP hS hl => lv_imul C.1 C.2.1 hdg (kk H locs ls hP hS hl)
theorem ol_iand {x y : Int32} (C : ol_Cx p s m args c cc nL own D cA A) (hdg : decode cc pc = .ok (.iand, 1)) (kk : ol_W p l e R s m args below meth c D cA A Q nL ro I F cells slots (pc + 1) lv (.int (x &&& y) :: rest)) : ol_W p l e R s m args below meth c D cA A Q nL ro I F cells slots pc lv (.int y :: .int x :: rest) :=
  fun H locs ls hP hS hl => lv_iand C.1 C.2.1 hdg (kk H locs ls hP hS hl)
theorem ol_idiv {x y : Int32} (C : ol_Cx p s m args c cc nL own D cA A) (hdg : decode cc pc = .ok (.idiv, 1)) (hne : ¬ y = 0) (kk : ol_W p l e R s m args below meth c D cA A Q nL ro I F cells slots (pc + 1) lv (.int (x / y) :: rest)) : ol_W p l e R s m args below meth c D cA A Q nL ro I F cells slots pc lv (.int y :: .int x :: rest) :=
  fun H locs ls hP hS hl => lv_idiv C.1 C.2.1 hdg hne (kk H locs ls hP hS hl)
theorem ol_dup {v : Value} (C : ol_Cx p s m args c cc nL own D cA A) (hdg : decode cc pc = .ok (.dup, 1)) (hc : v.category = 1) (kk : ol_W p l e R s m args below meth c D cA A Q nL ro I F cells slots (pc + 1) lv (v :: v :: rest)) : ol_W p l e R s m args below meth c D cA A Q nL ro I F cells slots pc lv (v :: rest) :=
  fun H locs ls hP hS hl => lv_dup C.1 C.2.1 hdg hc (kk H locs ls hP hS hl)
theorem ol_pop {v : Value} (C : ol_Cx p s m args c cc nL own D cA A) (hdg : decode cc pc = .ok (.pop, 1)) (hc : v.category = 1) (kk : ol_W p l e R s m args below meth c D cA A Q nL ro I F cells slots (pc + 1) lv rest) : ol_W p l e R s m args below meth c D cA A Q nL ro I F cells slots pc lv (v :: rest) :=
  fun H locs ls hP hS hl => lv_pop C.1 C.2.1 hdg hc (kk H locs ls hP hS hl)
theorem ol_dup_x1 {v w : Value} (C : ol_Cx p s m args c cc nL own D cA A) (hdg : decode cc pc = .ok (.dup_x1, 1)) (hc : v.category = 1) (hd : w.category = 1) (kk : ol_W p l e R s m args below meth c D cA A Q nL ro I F cells slots (pc + 1) lv (v :: w :: v :: rest)) : ol_W p l e R s m args below meth c D cA A Q nL ro I F cells slots pc lv (v :: w :: rest) :=
  fun H locs ls hP hS hl => lv_dup_x1 C.1 C.2.1 hdg hc hd (kk H locs ls hP hS hl)
theorem ol_dup2 {v w : Value} (C : ol_Cx p s m args c cc nL own D cA A) (hdg : decode cc pc = .ok (.dup2, 1)) (hc : v.category = 1) (hd : w.category = 1) (kk : ol_W p l e R s m args below meth c D cA A Q nL ro I F cells slots (pc + 1) lv (v :: w :: v :: w :: rest)) : ol_W p l e R s m args below meth c D cA A Q nL ro I F cells slots pc lv (v :: w :: rest) :=
  fun H locs ls hP hS hl => lv_dup2_11 C.1 C.2.1 hdg hc hd (kk H locs ls hP hS hl)
theorem ol_dup_x2 {v w x : Value} (C : ol_Cx p s m args c cc nL own D cA A) (hdg : decode cc pc = .ok (.dup_x2, 1)) (hc : v.category = 1) (hd : w.category = 1) (he : x.category = 1) (kk : ol_W p l e R s m args below meth c D cA A Q nL ro I F cells slots (pc + 1) lv (v :: w :: x :: v :: rest)) : ol_W p l e R s m args below meth c D cA A Q nL ro I F cells slots pc lv (v :: w :: x :: rest) :=
  fun H locs ls hP hS hl => lv_dup_x2 C.1 C.2.1 hdg hc hd he (kk H locs ls hP hS hl)
theorem ol_goto {off : Int} {tgt : Nat} (C : ol_Cx p s m args c cc nL own D cA A) (hdg : decode cc pc = .ok (.goto off, 3)) (ht : (pc : Int) + off = (tgt : Int)) (kk : ol_W p l e R s m args below meth c D cA A Q nL ro I F cells slots tgt lv rest) : ol_W p l e R s m args below meth c D cA A Q nL ro I F cells slots pc lv rest :=
  fun H locs ls hP hS hl => lv_goto C.1 C.2.1 hdg ht (kk H locs ls hP hS hl)
theorem ol_table_out {dflt lo hi : Int} {offs : Array Int} {len : Nat} {x : Int32} {tgt : Nat} (C : ol_Cx p s m args c cc nL own D cA A) (hdg : decode cc pc = .ok (.tableswitch dflt lo hi offs, len)) (h : x.toInt < lo ∨ hi < x.toInt) (ht : (pc : Int) + dflt = (tgt : Int)) (kk : ol_W p l e R s m args below meth c D cA A Q nL ro I F cells slots tgt lv rest) : ol_W p l e R s m args below meth c D cA A Q nL ro I F cells slots pc lv (.int x :: rest) :=
  fun H locs ls hP hS hl => lv_tableOut C.1 C.2.1 hdg h ht (kk H locs ls hP hS hl)
theorem ol_table_in {dflt lo hi : Int} {offs : Array Int} {len : Nat} {x : Int32} {off : Int} {tgt : Nat} (C : ol_Cx p s m args c cc nL own D cA A) (hdg : decode cc pc = .ok (.tableswitch dflt lo hi offs, len)) (h1 : ¬ x.toInt < lo) (h2 : ¬ hi < x.toInt) (ho : offs[(x.toInt - lo).toNat]? = some off) (ht : (pc : Int) + off = (tgt : Int)) (kk : ol_W p l e R s m args below meth c D cA A Q nL ro I F cells slots tgt lv rest) : ol_W p l e R s m args below meth c D cA A Q nL ro I F cells slots pc lv (.int x :: rest) :=
  fun H locs ls hP hS hl => lv_tableIn C.1 C.2.1 hdg h1 h2 ho ht (kk H locs ls hP hS hl)
theorem ol_lookup {dflt : Int} {ps : Array (Int × Int)} {len : Nat} {x : Int32} {off : Int} {tgt : Nat} (C : ol_Cx p s m args c cc nL own D cA A) (hdg : decode cc pc = .ok (.lookupswitch dflt ps, len)) (hp : (ps.toList.zip (ps.toList.drop 1)).all (fun (a, next) => a.1 < next.1) = true) (ho : Op.lookupswitch.offset ps.toList dflt x.toInt = off) (ht : (pc : Int) + off = (tgt : Int)) (kk : ol_W p l e R s m args below meth c D cA A Q nL ro I F cells slots tgt lv rest) : ol_W p l e R s m args below meth c D cA A Q nL ro I F cells slots pc lv (.int x :: rest) :=
  fun H locs ls hP hS hl => lv_lookup C.1 C.2.1 hdg hp ho ht (kk H locs ls hP hS hl)
theorem ol_ifnull {r : Option Nat} {off : Int} {tgt : Nat} (C : ol_Cx p s m args c cc nL own D cA A) (hdg : decode cc pc = .ok (.ifnull off, 3)) (ht : (pc : Int) + off = (tgt : Int)) (kt : r = none → ol_W p l e R s m args below meth c D cA A Q nL ro I F cells slots tgt lv rest) (kf : ∀ a, r = some a → ol_W p l e R s m args below meth c D cA A Q nL ro I F cells slots (pc + 3) lv rest) : ol_W p l e R s m args below meth c D cA A Q nL ro I F cells slots pc lv (va_rf r :: rest) := by
  intro H locs ls hP hS hl
  cases r with
  | none => exact lv_ifnullN C.1 C.2.1 hdg ht (kt rfl H locs ls hP hS hl)
  | some a => exact lv_ifnull C.1 C.2.1 hdg (kf a rfl H locs ls hP hS hl)
theorem ol_ifnonnull {r : Option Nat} {off : Int} {tgt : Nat} (C : ol_Cx p s m args c cc nL own D cA A) (hdg : decode cc pc = .ok (.ifnonnull off, 3)) (ht : (pc : Int) + off = (tgt : Int)) (kt : ∀ a, r = some a → ol_W p l e R s m args below meth c D cA A Q nL ro I F cells slots tgt lv rest) (kf : r = none → ol_W p l e R s m args below meth c D cA A Q nL ro I F cells slots (pc + 3) lv rest) : ol_W p l e R s m args below meth c D cA A Q nL ro I F cells slots pc lv (va_rf r :: rest) := by
  intro H locs ls hP hS hl
  cases r with
  | none => exact lv_ifnonnullN C.1 C.2.1 hdg (kf rfl H locs ls hP hS hl)
  | some a => exact lv_ifnonnull C.1 C.2.1 hdg ht (kt a rfl H locs ls hP hS hl)
theorem ol_acmp_eq {rx ry : Option Nat} {off : Int} {tgt : Nat} (C : ol_Cx p s m args c cc nL own D cA A) (hdg : decode cc pc = .ok (.if_acmp .eq off, 3)) (ht : (pc : Int) + off = (tgt : Int)) (kt : rx = ry → ol_W p l e R s m args below meth c D cA A Q nL ro I F cells slots tgt lv rest) (kf : ¬ rx = ry → ol_W p l e R s m args below meth c D cA A Q nL ro I F cells slots (pc + 3) lv rest) : ol_W p l e R s m args below meth c D cA A Q nL ro I F cells slots pc lv (va_rf ry :: va_rf rx :: rest) :=
  fun H locs ls hP hS hl => lv_acmp_eq C.1 C.2.1 hdg ht (fun h => kt h H locs ls hP hS hl) (fun h => kf h H locs ls hP hS hl)
theorem ol_acmp_ne {rx ry : Option Nat} {off : Int} {tgt : Nat} (C : ol_Cx p s m args c cc nL own D cA A) (hdg : decode cc pc = .ok (.if_acmp .ne off, 3)) (ht : (pc : Int) + off = (tgt : Int)) (kt : ¬ rx = ry → ol_W p l e R s m args below meth c D cA A Q nL ro I F cells slots tgt lv rest) (kf : rx = ry → ol_W p l e R s m args below meth c D cA A Q nL ro I F cells slots (pc + 3) lv rest) : ol_W p l e R s m args below meth c D cA A Q nL ro I F cells slots pc lv (va_rf ry :: va_rf rx :: rest) :=
  fun H locs ls hP hS hl => lv_acmp_ne C.1 C.2.1 hdg ht (fun h => kt h H locs ls hP hS hl) (fun h => kf h H locs ls hP hS hl)
theorem ol_if_eq {x : Int32} {off : Int} {tgt : Nat} (C : ol_Cx p s m args c cc nL own D cA A) (hdg : decode cc pc = .ok (.ifCond .eq off, 3)) (ht : (pc : Int) + off = (tgt : Int)) (kt : x = 0 → ol_W p l e R s m args below meth c D cA A Q nL ro I F cells slots tgt lv rest) (kf : ¬ x = 0 → ol_W p l e R s m args below meth c D cA A Q nL ro I F cells slots (pc + 3) lv rest) : ol_W p l e R s m args below meth c D cA A Q nL ro I F cells slots pc lv (.int x :: rest) :=
  fun H locs ls hP hS hl => lv_if_eq C.1 C.2.1 hdg ht (fun h => kt h H locs ls hP hS hl) (fun h => kf h H locs ls hP hS hl)
theorem ol_icmp_eq {x y : Int32} {off : Int} {tgt : Nat} (C : ol_Cx p s m args c cc nL own D cA A) (hdg : decode cc pc = .ok (.if_icmp .eq off, 3)) (ht : (pc : Int) + off = (tgt : Int)) (kt : x = y → ol_W p l e R s m args below meth c D cA A Q nL ro I F cells slots tgt lv rest) (kf : ¬ x = y → ol_W p l e R s m args below meth c D cA A Q nL ro I F cells slots (pc + 3) lv rest) : ol_W p l e R s m args below meth c D cA A Q nL ro I F cells slots pc lv (.int y :: .int x :: rest) :=
  fun H locs ls hP hS hl => lv_icmp_eq C.1 C.2.1 hdg ht (fun h => kt h H locs ls hP hS hl) (fun h => kf h H locs ls hP hS hl)
theorem ol_if_ne {x : Int32} {off : Int} {tgt : Nat} (C : ol_Cx p s m args c cc nL own D cA A) (hdg : decode cc pc = .ok (.ifCond .ne off, 3)) (ht : (pc : Int) + off = (tgt : Int)) (kt : ¬ x = 0 → ol_W p l e R s m args below meth c D cA A Q nL ro I F cells slots tgt lv rest) (kf : x = 0 → ol_W p l e R s m args below meth c D cA A Q nL ro I F cells slots (pc + 3) lv rest) : ol_W p l e R s m args below meth c D cA A Q nL ro I F cells slots pc lv (.int x :: rest) :=
  fun H locs ls hP hS hl => lv_if_ne C.1 C.2.1 hdg ht (fun h => kt h H locs ls hP hS hl) (fun h => kf h H locs ls hP hS hl)
theorem ol_icmp_ne {x y : Int32} {off : Int} {tgt : Nat} (C : ol_Cx p s m args c cc nL own D cA A) (hdg : decode cc pc = .ok (.if_icmp .ne off, 3)) (ht : (pc : Int) + off = (tgt : Int)) (kt : ¬ x = y → ol_W p l e R s m args below meth c D cA A Q nL ro I F cells slots tgt lv rest) (kf : x = y → ol_W p l e R s m args below meth c D cA A Q nL ro I F cells slots (pc + 3) lv rest) : ol_W p l e R s m args below meth c D cA A Q nL ro I F cells slots pc lv (.int y :: .int x :: rest) :=
  fun H locs ls hP hS hl => lv_icmp_ne C.1 C.2.1 hdg ht (fun h => kt h H locs ls hP hS hl) (fun h => kf h H locs ls hP hS hl)
theorem ol_if_lt {x : Int32} {off : Int} {tgt : Nat} (C : ol_Cx p s m args c cc nL own D cA A) (hdg : decode cc pc = .ok (.ifCond .lt off, 3)) (ht : (pc : Int) + off = (tgt : Int)) (kt : x < 0 → ol_W p l e R s m args below meth c D cA A Q nL ro I F cells slots tgt lv rest) (kf : ¬ x < 0 → ol_W p l e R s m args below meth c D cA A Q nL ro I F cells slots (pc + 3) lv rest) : ol_W p l e R s m args below meth c D cA A Q nL ro I F cells slots pc lv (.int x :: rest) :=
  fun H locs ls hP hS hl => lv_if_lt C.1 C.2.1 hdg ht (fun h => kt h H locs ls hP hS hl) (fun h => kf h H locs ls hP hS hl)
theorem ol_icmp_lt {x y : Int32} {off : Int} {tgt : Nat} (C : ol_Cx p s m args c cc nL own D cA A) (hdg : decode cc pc = .ok (.if_icmp .lt off, 3)) (ht : (pc : Int) + off = (tgt : Int)) (kt : x < y → ol_W p l e R s m args below meth c D cA A Q nL ro I F cells slots tgt lv rest) (kf : ¬ x < y → ol_W p l e R s m args below meth c D cA A Q nL ro I F cells slots (pc + 3) lv rest) : ol_W p l e R s m args below meth c D cA A Q nL ro I F cells slots pc lv (.int y :: .int x :: rest) :=
  fun H locs ls hP hS hl => lv_icmp_lt C.1 C.2.1 hdg ht (fun h => kt h H locs ls hP hS hl) (fun h => kf h H locs ls hP hS hl)
theorem ol_if_ge {x : Int32} {off : Int} {tgt : Nat} (C : ol_Cx p s m args c cc nL own D cA A) (hdg : decode cc pc = .ok (.ifCond .ge off, 3)) (ht : (pc : Int) + off = (tgt : Int)) (kt : 0 ≤ x → ol_W p l e R s m args below meth c D cA A Q nL ro I F cells slots tgt lv rest) (kf : ¬ 0 ≤ x → ol_W p l e R s m args below meth c D cA A Q nL ro I F cells slots (pc + 3) lv rest) : ol_W p l e R s m args below meth c D cA A Q nL ro I F cells slots pc lv (.int x :: rest) :=
  fun H locs ls hP hS hl => lv_if_ge C.1 C.2.1 hdg ht (fun h => kt h H locs ls hP hS hl) (fun h => kf h H locs ls hP hS hl)
theorem ol_icmp_ge {x y : Int32} {off : Int} {tgt : Nat} (C : ol_Cx p s m args c cc nL own D cA A) (hdg : decode cc pc = .ok (.if_icmp .ge off, 3)) (ht : (pc : Int) + off = (tgt : Int)) (kt : y ≤ x → ol_W p l e R s m args below meth c D cA A Q nL ro I F cells slots tgt lv rest) (kf : ¬ y ≤ x → ol_W p l e R s m args below meth c D cA A Q nL ro I F cells slots (pc + 3) lv rest) : ol_W p l e R s m args below meth c D cA A Q nL ro I F cells slots pc lv (.int y :: .int x :: rest) :=
  fun H locs ls hP hS hl => lv_icmp_ge C.1 C.2.1 hdg ht (fun h => kt h H locs ls hP hS hl) (fun h => kf h H locs ls hP hS hl)
theorem ol_if_gt {x : Int32} {off : Int} {tgt : Nat} (C : ol_Cx p s m args c cc nL own D cA A) (hdg : decode cc pc = .ok (.ifCond .gt off, 3)) (ht : (pc : Int) + off = (tgt : Int)) (kt : 0 < x → ol_W p l e R s m args below meth c D cA A Q nL ro I F cells slots tgt lv rest) (kf : ¬ 0 < x → ol_W p l e R s m args below meth c D cA A Q nL ro I F cells slots (pc + 3) lv rest) : ol_W p l e R s m args below meth c D cA A Q nL ro I F cells slots pc lv (.int x :: rest) :=
  fun H locs ls hP hS hl => lv_if_gt C.1 C.2.1 hdg ht (fun h => kt h H locs ls hP hS hl) (fun h => kf h H locs ls hP hS hl)
theorem ol_icmp_gt {x y : Int32} {off : Int} {tgt : Nat} (C : ol_Cx p s m args c cc nL own D cA A) (hdg : decode cc pc = .ok (.if_icmp .gt off, 3)) (ht : (pc : Int) + off = (tgt : Int)) (kt : y < x → ol_W p l e R s m args below meth c D cA A Q nL ro I F cells slots tgt lv rest) (kf : ¬ y < x → ol_W p l e R s m args below meth c D cA A Q nL ro I F cells slots (pc + 3) lv rest) : ol_W p l e R s m args below meth c D cA A Q nL ro I F cells slots pc lv (.int y :: .int x :: rest) :=
  fun H locs ls hP hS hl => lv_icmp_gt C.1 C.2.1 hdg ht (fun h => kt h H locs ls hP hS hl) (fun h => kf h H locs ls hP hS hl)
theorem ol_if_le {x : Int32} {off : Int} {tgt : Nat} (C : ol_Cx p s m args c cc nL own D cA A) (hdg : decode cc pc = .ok (.ifCond .le off, 3)) (ht : (pc : Int) + off = (tgt : Int)) (kt : x ≤ 0 → ol_W p l e R s m args below meth c D cA A Q nL ro I F cells slots tgt lv rest) (kf : ¬ x ≤ 0 → ol_W p l e R s m args below meth c D cA A Q nL ro I F cells slots (pc + 3) lv rest) : ol_W p l e R s m args below meth c D cA A Q nL ro I F cells slots pc lv (.int x :: rest) :=
  fun H locs ls hP hS hl => lv_if_le C.1 C.2.1 hdg ht (fun h => kt h H locs ls hP hS hl) (fun h => kf h H locs ls hP hS hl)
theorem ol_icmp_le {x y : Int32} {off : Int} {tgt : Nat} (C : ol_Cx p s m args c cc nL own D cA A) (hdg : decode cc pc = .ok (.if_icmp .le off, 3)) (ht : (pc : Int) + off = (tgt : Int)) (kt : x ≤ y → ol_W p l e R s m args below meth c D cA A Q nL ro I F cells slots tgt lv rest) (kf : ¬ x ≤ y → ol_W p l e R s m args below meth c D cA A Q nL ro I F cells slots (pc + 3) lv rest) : ol_W p l e R s m args below meth c D cA A Q nL ro I F cells slots pc lv (.int y :: .int x :: rest) :=
  fun H locs ls hP hS hl => lv_icmp_le C.1 C.2.1 hdg ht (fun h => kt h H locs ls hP hS hl) (fun h => kf h H locs ls hP hS hl)
/-! the heap -/
theorem ol_fd_spec {ci k : Nat} {x : String × String × String × Bool} (h : ol_fd ci k = some x) : ∃ q : vw_C, ol_cl[ci]? = some q ∧ k < q.2.2 ∧ q.2.1 k = x := by
  unfold ol_fd at h
  cases hc : ol_cl[ci]? with
  | none => rw [hc] at h; cases h
  | some q =>
    rw [hc] at h
    simp only [Option.bind_some] at h
    split at h
    · exact ⟨q, rfl, by assumption, Option.some.inj h⟩
    · cases h
theorem ol_sm {own ref dc nm ds : String} (C : ol_Cx p s m args c cc nL own D cA A) (h : ref = dc ∨ Cond.sameField ref dc nm ds ∈ ol_all) : ∀ x, s.fieldFound? dc nm ds = some x → s.fieldFound? ref nm ds = some x := by
  rcases h with rfl | h
  · exact fun _ h => h
  · exact fun x hx => u_same (C.2.2.2.2.1 _ h) x hx
theorem ol_cf_obj {a ci : Nat} (hr : ol_ct (ro a) = .inl ci) : ol_cf cA ro I F a = .inr (ci, ol_fv (ol_fk ci) 0 (I a) (F a)) := by
  unfold ol_cf
  rw [hr]
  rfl
theorem ol_cf_ints {a t n : Nat} (hr : ol_ct (ro a) = .inr (t, n)) (ht : ol_ar t = false) : ol_cf cA ro I F a = .inl (cA t, n, .inl (I a)) := by
  unfold ol_cf
  rw [hr]
  show Sum.inl (cA t, n, if ol_ar t = true then _ else _) = _
  rw [ht, if_neg (by decide)]
theorem ol_cf_refs {a t n : Nat} (hr : ol_ct (ro a) = .inr (t, n)) (ht : ol_ar t = true) : ol_cf cA ro I F a = .inl (cA t, n, .inr (.inr (.inr (.inr (F a))))) := by
  unfold ol_cf
  rw [hr]
  show Sum.inl (cA t, n, if ol_ar t = true then _ else _) = _
  rw [if_pos ht]
theorem ol_getI {a ci k index : Nat} {ref dc nm ds : String} {fin : Bool} (C : ol_Cx p s m args c cc nL own D cA A) (h0 : ro a ≠ 0) (hr : ol_ct (ro a) = .inl ci) (hfd : ol_fd ci k = some (dc, nm, ds, fin)) (hk : (ol_fk ci)[k]? = some false) (hlink : Cond.fieldLink own index ref nm ds ∈ ol_all) (hsm : ref = dc ∨ Cond.sameField ref dc nm ds ∈ ol_all) (hdg : decode cc pc = .ok (.getfield index, 3)) (kk : ol_W p l e R s m args below meth c D cA A Q nL ro I F cells slots (pc + 3) lv (.int (I a k) :: rest)) : ol_W p l e R s m args below meth c D cA A Q nL ro I F cells slots pc lv (.ref a :: rest) := by
  intro H locs ls hP hS hl
  obtain ⟨L, h1, h2, h3⟩ := id hP
  obtain ⟨j, hj⟩ := ol_pl_get (f := ol_cf cA ro I F) ((h1 a).mpr h0)
  rw [ol_cf_obj hr] at hj
  obtain ⟨q, g1, g2, g3⟩ := ol_fd_spec hfd
  have hv := ol_fv_get (ol_fk ci) 0 k (I a) (F a) false hk
  rw [if_neg (by decide), Nat.zero_add] at hv
  exact va_get (ref := ref) C.1 C.2.1 C.2.2.2.2.1 (ol_cl_ws ci q g1) C.2.2.2.1 C.2.2.2.2.2.1.1 h2 j hj g1 k g2 (by rw [g3]; exact C.2.2.2.2.1 _ hlink) (by rw [g3]; exact ol_sm C hsm) hv hdg (kk H locs ls hP hS hl)
theorem ol_getR {a ci k index : Nat} {ref dc nm ds : String} {fin : Bool} (C : ol_Cx p s m args c cc nL own D cA A) (h0 : ro a ≠ 0) (hr : ol_ct (ro a) = .inl ci) (hfd : ol_fd ci k = some (dc, nm, ds, fin)) (hk : (ol_fk ci)[k]? = some true) (hlink : Cond.fieldLink own index ref nm ds ∈ ol_all) (hsm : ref = dc ∨ Cond.sameField ref dc nm ds ∈ ol_all) (hdg : decode cc pc = .ok (.getfield index, 3)) (kk : ol_W p l e R s m args below meth c D cA A Q nL ro I F cells slots (pc + 3) lv (va_rf (F a k) :: rest)) : ol_W p l e R s m args below meth c D cA A Q nL ro I F cells slots pc lv (.ref a :: rest) := by
  intro H locs ls hP hS hl
  obtain ⟨L, h1, h2, h3⟩ := id hP
  obtain ⟨j, hj⟩ := ol_pl_get (f := ol_cf cA ro I F) ((h1 a).mpr h0)
  rw [ol_cf_obj hr] at hj
  obtain ⟨q, g1, g2, g3⟩ := ol_fd_spec hfd
  have hv := ol_fv_get (ol_fk ci) 0 k (I a) (F a) true hk
  rw [if_pos rfl, Nat.zero_add] at hv
  exact va_get (ref := ref) C.1 C.2.1 C.2.2.2.2.1 (ol_cl_ws ci q g1) C.2.2.2.1 C.2.2.2.2.2.1.1 h2 j hj g1 k g2 (by rw [g3]; exact C.2.2.2.2.1 _ hlink) (by rw [g3]; exact ol_sm C hsm) hv hdg (kk H locs ls hP hS hl)
theorem ol_getIN {a ci k index : Nat} {ref dc nm ds host : String} {fin : Bool} (C : ol_Cx p s m args c cc nL own D cA A) (h0 : ro a ≠ 0) (hr : ol_ct (ro a) = .inl ci) (hfd : ol_fd ci k = some (dc, nm, ds, fin)) (hk : (ol_fk ci)[k]? = some false) (hlink : Cond.fieldLinkNest own index ref nm ds host ∈ ol_n1) (hsm : ref = dc ∨ Cond.sameField ref dc nm ds ∈ ol_all) (hdg : decode cc pc = .ok (.getfield index, 3)) (kk : ol_W p l e R s m args below meth c D cA A Q nL ro I F cells slots (pc + 3) lv (.int (I a k) :: rest)) : ol_W p l e R s m args below meth c D cA A Q nL ro I F cells slots pc lv (.ref a :: rest) := by
  intro H locs ls hP hS hl
  obtain ⟨L, h1, h2, h3⟩ := id hP
  obtain ⟨j, hj⟩ := ol_pl_get (f := ol_cf cA ro I F) ((h1 a).mpr h0)
  rw [ol_cf_obj hr] at hj
  obtain ⟨q, g1, g2, g3⟩ := ol_fd_spec hfd
  have hv := ol_fv_get (ol_fk ci) 0 k (I a) (F a) false hk
  rw [if_neg (by decide), Nat.zero_add] at hv
  exact va_getN (ref := ref) (host := host) C.1 C.2.1 C.2.2.2.2.1 (ol_cl_ws ci q g1) C.2.2.2.1 C.2.2.2.2.2.1.1 h2 j hj g1 k g2 (by rw [g3]; exact va_Nw.use rfl (C.2.2.2.2.2.1.2.1 _ hlink)) (by rw [g3]; exact ol_sm C hsm) hv hdg (kk H locs ls hP hS hl)
theorem ol_getRN {a ci k index : Nat} {ref dc nm ds host : String} {fin : Bool} (C : ol_Cx p s m args c cc nL own D cA A) (h0 : ro a ≠ 0) (hr : ol_ct (ro a) = .inl ci) (hfd : ol_fd ci k = some (dc, nm, ds, fin)) (hk : (ol_fk ci)[k]? = some true) (hlink : Cond.fieldLinkNest own index ref nm ds host ∈ ol_n1) (hsm : ref = dc ∨ Cond.sameField ref dc nm ds ∈ ol_all) (hdg : decode cc pc = .ok (.getfield index, 3)) (kk : ol_W p l e R s m args below meth c D cA A Q nL ro I F cells slots (pc + 3) lv (va_rf (F a k) :: rest)) : ol_W p l e R s m args below meth c D cA A Q nL ro I F cells slots pc lv (.ref a :: rest) := by
  intro H locs ls hP hS hl
  obtain ⟨L, h1, h2, h3⟩ := id hP
  obtain ⟨j, hj⟩ := ol_pl_get (f := ol_cf cA ro I F) ((h1 a).mpr h0)
  rw [ol_cf_obj hr] at hj
  obtain ⟨q, g1, g2, g3⟩ := ol_fd_spec hfd
  have hv := ol_fv_get (ol_fk ci) 0 k (I a) (F a) true hk
  rw [if_pos rfl, Nat.zero_add] at hv
  exact va_getN (ref := ref) (host := host) C.1 C.2.1 C.2.2.2.2.1 (ol_cl_ws ci q g1) C.2.2.2.1 C.2.2.2.2.2.1.1 h2 j hj g1 k g2 (by rw [g3]; exact va_Nw.use rfl (C.2.2.2.2.2.1.2.1 _ hlink)) (by rw [g3]; exact ol_sm C hsm) hv hdg (kk H locs ls hP hS hl)
theorem ol_lenfv {ci k : Nat} {b : Bool} (I0 : Nat → Int32) (F0' : Nat → Option Nat) (hk : (ol_fk ci)[k]? = some b) : k < (ol_fv (ol_fk ci) 0 I0 F0').length := by
  rw [ol_fv_len]
  exact (List.getElem?_eq_some_iff.mp hk).1
theorem ol_putI {a ci k index : Nat} {ref dc nm ds : String} {v : Int32} (C : ol_Cx p s m args c cc nL own D cA A) (h0 : ro a ≠ 0) (hr : ol_ct (ro a) = .inl ci) (hfd : ol_fd ci k = some (dc, nm, ds, false)) (hk : (ol_fk ci)[k]? = some false) (hlink : Cond.fieldLink own index ref nm ds ∈ ol_all) (hsm : ref = dc ∨ Cond.sameField ref dc nm ds ∈ ol_all) (hn : narrow (ol_ty ci k) (.int v) = .int v) (hfit : fits (ol_ty ci k) (.int v) = true) (hdg : decode cc pc = .ok (.putfield index, 3)) (kk : ol_W p l e R s m args below meth c D cA A Q nL ro (ol_u2 I a k v) F cells slots (pc + 3) lv rest) : ol_W p l e R s m args below meth c D cA A Q nL ro I F cells slots pc lv (.int v :: .ref a :: rest) := by
  intro H locs ls hP hS hl
  obtain ⟨L, h1, h2, h3⟩ := id hP
  obtain ⟨j, hj⟩ := ol_pl_get (f := ol_cf cA ro I F) ((h1 a).mpr h0)
  have hj0 := hj
  rw [ol_cf_obj hr] at hj
  obtain ⟨q, g1, g2, g3⟩ := ol_fd_spec hfd
  refine va_put (ref := ref) C.1 C.2.1 C.2.2.2.2.1 (ol_cl_ws ci q g1) (ol_ty ci) (ol_cl_ty ci q g1) (ol_cl_nm ci q g1) C.2.2.2.1 C.2.2.2.2.2.1.1 h2 h3 hS j hj g1 k g2 (by rw [g3]; exact C.2.2.2.2.1 _ hlink) (by rw [g3]; exact ol_sm C hsm) (by rw [g3]) (ol_cl_ty ci q g1 k g2) hn hfit (ol_lenfv _ _ hk) hdg (fun H1 locs1 hP1 hD1 hS1 => ?_)
  exact kk H1 locs1 ls (ol_set (I' := ol_u2 I a k v) (F' := F) h1 h3 ((h1 a).mpr h0) hj0 (by rw [hr, ol_fv_setI _ _ _ _ _ hk]; unfold ol_u2; rw [va_up_self]; rfl) (fun b hb => ol_u2_a I v hb) (fun _ _ => rfl) hP1 hD1) hS1 hl
theorem ol_putR {a ci k index : Nat} {ref dc nm ds : String} {r : Option Nat} {v : Value} (C : ol_Cx p s m args c cc nL own D cA A) (hv : v = va_rf r) (h0 : ro a ≠ 0) (hr : ol_ct (ro a) = .inl ci) (hfd : ol_fd ci k = some (dc, nm, ds, false)) (hk : (ol_fk ci)[k]? = some true) (hlink : Cond.fieldLink own index ref nm ds ∈ ol_all) (hsm : ref = dc ∨ Cond.sameField ref dc nm ds ∈ ol_all) (hn : narrow (ol_ty ci k) (va_rf r) = va_rf r) (hfit : fits (ol_ty ci k) (va_rf r) = true) (hdg : decode cc pc = .ok (.putfield index, 3)) (kk : ol_W p l e R s m args below meth c D cA A Q nL ro I (ol_u2 F a k r) cells slots (pc + 3) lv rest) : ol_W p l e R s m args below meth c D cA A Q nL ro I F cells slots pc lv (v :: .ref a :: rest) := by
  intro H locs ls hP hS hl
  subst hv
  obtain ⟨L, h1, h2, h3⟩ := id hP
  obtain ⟨j, hj⟩ := ol_pl_get (f := ol_cf cA ro I F) ((h1 a).mpr h0)
  have hj0 := hj
  rw [ol_cf_obj hr] at hj
  obtain ⟨q, g1, g2, g3⟩ := ol_fd_spec hfd
  refine va_put (ref := ref) C.1 C.2.1 C.2.2.2.2.1 (ol_cl_ws ci q g1) (ol_ty ci) (ol_cl_ty ci q g1) (ol_cl_nm ci q g1) C.2.2.2.1 C.2.2.2.2.2.1.1 h2 h3 hS j hj g1 k g2 (by rw [g3]; exact C.2.2.2.2.1 _ hlink) (by rw [g3]; exact ol_sm C hsm) (by rw [g3]) (ol_cl_ty ci q g1 k g2) hn hfit (ol_lenfv _ _ hk) hdg (fun H1 locs1 hP1 hD1 hS1 => ?_)
  exact kk H1 locs1 ls (ol_set (I' := I) (F' := ol_u2 F a k r) h1 h3 ((h1 a).mpr h0) hj0 (by rw [hr, ol_fv_setF _ _ _ _ _ hk]; unfold ol_u2; rw [va_up_self]; rfl) (fun _ _ => rfl) (fun b hb => ol_u2_a F r hb) hP1 hD1) hS1 hl
theorem ol_putIF {a ci k index : Nat} {ref dc nm ds : String} {v : Int32} (C : ol_Cx p s m args c cc nL own D cA A) (h0 : ro a ≠ 0) (hr : ol_ct (ro a) = .inl ci) (hfd : ol_fd ci k = some (dc, nm, ds, true)) (hk : (ol_fk ci)[k]? = some false) (hlink : Cond.fieldLink own index ref nm ds ∈ ol_all) (hsm : ref = dc ∨ Cond.sameField ref dc nm ds ∈ ol_all) (hin : meth.name = "<init>") (hdc : dc = own) (hn : narrow (ol_ty ci k) (.int v) = .int v) (hfit : fits (ol_ty ci k) (.int v) = true) (hdg : decode cc pc = .ok (.putfield index, 3)) (kk : ol_W p l e R s m args below meth c D cA A Q nL ro (ol_u2 I a k v) F cells slots (pc + 3) lv rest) : ol_W p l e R s m args below meth c D cA A Q nL ro I F cells slots pc lv (.int v :: .ref a :: rest) := by
  intro H locs ls hP hS hl
  obtain ⟨L, h1, h2, h3⟩ := id hP
  obtain ⟨j, hj⟩ := ol_pl_get (f := ol_cf cA ro I F) ((h1 a).mpr h0)
  have hj0 := hj
  rw [ol_cf_obj hr] at hj
  obtain ⟨q, g1, g2, g3⟩ := ol_fd_spec hfd
  refine va_putF (ref := ref) C.1 C.2.1 C.2.2.2.2.1 (ol_cl_ws ci q g1) (ol_ty ci) (ol_cl_ty ci q g1) (ol_cl_nm ci q g1) C.2.2.2.1 C.2.2.2.2.2.1.1 h2 h3 hS j hj g1 k g2 (by rw [g3]; exact C.2.2.2.2.1 _ hlink) (by rw [g3]; exact ol_sm C hsm) (by rw [g3]) hin (by rw [g3]; exact hdc) (ol_cl_ty ci q g1 k g2) hn hfit (ol_lenfv _ _ hk) hdg (fun H1 locs1 hP1 hD1 hS1 => ?_)
  exact kk H1 locs1 ls (ol_set (I' := ol_u2 I a k v) (F' := F) h1 h3 ((h1 a).mpr h0) hj0 (by rw [hr, ol_fv_setI _ _ _ _ _ hk]; unfold ol_u2; rw [va_up_self]; rfl) (fun b hb => ol_u2_a I v hb) (fun _ _ => rfl) hP1 hD1) hS1 hl
theorem ol_putRF {a ci k index : Nat} {ref dc nm ds : String} {r : Option Nat} {v : Value} (C : ol_Cx p s m args c cc nL own D cA A) (hv : v = va_rf r) (h0 : ro a ≠ 0) (hr : ol_ct (ro a) = .inl ci) (hfd : ol_fd ci k = some (dc, nm, ds, true)) (hk : (ol_fk ci)[k]? = some true) (hlink : Cond.fieldLink own index ref nm ds ∈ ol_all) (hsm : ref = dc ∨ Cond.sameField ref dc nm ds ∈ ol_all) (hin : meth.name = "<init>") (hdc : dc = own) (hn : narrow (ol_ty ci k) (va_rf r) = va_rf r) (hfit : fits (ol_ty ci k) (va_rf r) = true) (hdg : decode cc pc = .ok (.putfield index, 3)) (kk : ol_W p l e R s m args below meth c D cA A Q nL ro I (ol_u2 F a k r) cells slots (pc + 3) lv rest) : ol_W p l e R s m args below meth c D cA A Q nL ro I F cells slots pc lv (v :: .ref a :: rest) := by
  intro H locs ls hP hS hl
  subst hv
  obtain ⟨L, h1, h2, h3⟩ := id hP
  obtain ⟨j, hj⟩ := ol_pl_get (f := ol_cf cA ro I F) ((h1 a).mpr h0)
  have hj0 := hj
  rw [ol_cf_obj hr] at hj
  obtain ⟨q, g1, g2, g3⟩ := ol_fd_spec hfd
  refine va_putF (ref := ref) C.1 C.2.1 C.2.2.2.2.1 (ol_cl_ws ci q g1) (ol_ty ci) (ol_cl_ty ci q g1) (ol_cl_nm ci q g1) C.2.2.2.1 C.2.2.2.2.2.1.1 h2 h3 hS j hj g1 k g2 (by rw [g3]; exact C.2.2.2.2.1 _ hlink) (by rw [g3]; exact ol_sm C hsm) (by rw [g3]) hin (by rw [g3]; exact hdc) (ol_cl_ty ci q g1 k g2) hn hfit (ol_lenfv _ _ hk) hdg (fun H1 locs1 hP1 hD1 hS1 => ?_)
  exact kk H1 locs1 ls (ol_set (I' := I) (F' := ol_u2 F a k r) h1 h3 ((h1 a).mpr h0) hj0 (by rw [hr, ol_fv_setF _ _ _ _ _ hk]; unfold ol_u2; rw [va_up_self]; rfl) (fun _ _ => rfl) (fun b hb => ol_u2_a F r hb) hP1 hD1) hS1 hl
theorem ol_iald {a n : Nat} {i : Int32} (C : ol_Cx p s m args c cc nL own D cA A) (h0 : ro a ≠ 0) (hr : ol_ct (ro a) = .inr (0, n)) (hin : vp_in i n) (hdg : decode cc pc = .ok (.iaload, 1)) (kk : ol_W p l e R s m args below meth c D cA A Q nL ro I F cells slots (pc + 1) lv (.int (I a i.toNatClampNeg) :: rest)) : ol_W p l e R s m args below meth c D cA A Q nL ro I F cells slots pc lv (.int i :: .ref a :: rest) := by
  intro H locs ls hP hS hl
  obtain ⟨L, h1, h2, h3⟩ := id hP
  obtain ⟨j, hj⟩ := ol_pl_get (f := ol_cf cA ro I F) ((h1 a).mpr h0)
  rw [ol_cf_ints hr rfl] at hj
  exact va_iald C.1 C.2.1 C.2.2.2.2.2.1.1 h2 j 0 hj rfl hin hdg (kk H locs ls hP hS hl)
theorem ol_zald {a n : Nat} {i : Int32} (C : ol_Cx p s m args c cc nL own D cA A) (h0 : ro a ≠ 0) (hr : ol_ct (ro a) = .inr (1, n)) (hin : vp_in i n) (hdg : decode cc pc = .ok (.baload, 1)) (kk : ol_W p l e R s m args below meth c D cA A Q nL ro I F cells slots (pc + 1) lv (.int (I a i.toNatClampNeg) :: rest)) : ol_W p l e R s m args below meth c D cA A Q nL ro I F cells slots pc lv (.int i :: .ref a :: rest) := by
  intro H locs ls hP hS hl
  obtain ⟨L, h1, h2, h3⟩ := id hP
  obtain ⟨j, hj⟩ := ol_pl_get (f := ol_cf cA ro I F) ((h1 a).mpr h0)
  rw [ol_cf_ints hr rfl] at hj
  exact va_zald C.1 C.2.1 C.2.2.2.2.2.1.1 h2 j 1 hj rfl hin hdg (kk H locs ls hP hS hl)
theorem ol_aald {a n t : Nat} {i : Int32} {cn : String} (C : ol_Cx p s m args c cc nL own D cA A) (h0 : ro a ≠ 0) (hr : ol_ct (ro a) = .inr (t, n)) (ht : ol_ar t = true) (htt : (ol_tys cA)[t]? = some (cA t, .object cn)) (hin : vp_in i n) (hdg : decode cc pc = .ok (.aaload, 1)) (kk : ol_W p l e R s m args below meth c D cA A Q nL ro I F cells slots (pc + 1) lv (va_rf (F a i.toNatClampNeg) :: rest)) : ol_W p l e R s m args below meth c D cA A Q nL ro I F cells slots pc lv (.int i :: .ref a :: rest) := by
  intro H locs ls hP hS hl
  obtain ⟨L, h1, h2, h3⟩ := id hP
  obtain ⟨j, hj⟩ := ol_pl_get (f := ol_cf cA ro I F) ((h1 a).mpr h0)
  rw [ol_cf_refs hr ht] at hj
  exact va_aldq C.1 C.2.1 C.2.2.2.2.2.1.1 h2 j t hj htt hin hdg (kk H locs ls hP hS hl)
theorem ol_alen {a n t : Nat} {v : Int32} {ty : FieldType} (C : ol_Cx p s m args c cc nL own D cA A) (h0 : ro a ≠ 0) (hr : ol_ct (ro a) = .inr (t, n)) (htt : (ol_tys cA)[t]? = some (cA t, ty)) (hv : Int32.ofNat n = v) (hdg : decode cc pc = .ok (.arraylength, 1)) (kk : ol_W p l e R s m args below meth c D cA A Q nL ro I F cells slots (pc + 1) lv (.int v :: rest)) : ol_W p l e R s m args below meth c D cA A Q nL ro I F cells slots pc lv (.ref a :: rest) := by
  intro H locs ls hP hS hl
  obtain ⟨L, h1, h2, h3⟩ := id hP
  obtain ⟨j, hj⟩ := ol_pl_get (f := ol_cf cA ro I F) ((h1 a).mpr h0)
  cases ht : ol_ar t with
  | true =>
    rw [ol_cf_refs hr ht] at hj
    exact va_alen C.1 C.2.1 C.2.2.2.2.2.1.1 h2 j t hj htt hv hdg (kk H locs ls hP hS hl)
  | false =>
    rw [ol_cf_ints hr ht] at hj
    exact va_alen C.1 C.2.1 C.2.2.2.2.2.1.1 h2 j t hj htt hv hdg (kk H locs ls hP hS hl)
theorem ol_upd (f : Nat → Int32) (k : Nat) (x : Int32) : upd f k x = va_up f k x := by
  funext j
  rfl
theorem ol_iast {a n : Nat} {i x : Int32} (C : ol_Cx p s m args c cc nL own D cA A) (h0 : ro a ≠ 0) (hr : ol_ct (ro a) = .inr (0, n)) (hin : vp_in i n) (hdg : decode cc pc = .ok (.iastore, 1)) (kk : ol_W p l e R s m args below meth c D cA A Q nL ro (ol_u2 I a i.toNatClampNeg x) F cells slots (pc + 1) lv rest) : ol_W p l e R s m args below meth c D cA A Q nL ro I F cells slots pc lv (.int x :: .int i :: .ref a :: rest) := by
  intro H locs ls hP hS hl
  obtain ⟨L, h1, h2, h3⟩ := id hP
  obtain ⟨j, hj⟩ := ol_pl_get (f := ol_cf cA ro I F) ((h1 a).mpr h0)
  have hj0 := hj
  rw [ol_cf_ints hr rfl] at hj
  refine va_iast C.1 C.2.1 C.2.2.2.2.2.1.1 h2 h3 hS j 0 hj rfl hin hdg (fun H1 locs1 hP1 hD1 hS1 => ?_)
  exact kk H1 locs1 ls (ol_set (I' := ol_u2 I a i.toNatClampNeg x) (F' := F) h1 h3 ((h1 a).mpr h0) hj0 (by rw [hr]; unfold ol_u2; rw [va_up_self, ol_upd]; rfl) (fun b hb => ol_u2_a I x hb) (fun _ _ => rfl) hP1 hD1) hS1 hl
theorem ol_zast {a n : Nat} {i x : Int32} (C : ol_Cx p s m args c cc nL own D cA A) (h0 : ro a ≠ 0) (hr : ol_ct (ro a) = .inr (1, n)) (hin : vp_in i n) (hx : vp_nar .boolean x = x) (hdg : decode cc pc = .ok (.bastore, 1)) (kk : ol_W p l e R s m args below meth c D cA A Q nL ro (ol_u2 I a i.toNatClampNeg x) F cells slots (pc + 1) lv rest) : ol_W p l e R s m args below meth c D cA A Q nL ro I F cells slots pc lv (.int x :: .int i :: .ref a :: rest) := by
  intro H locs ls hP hS hl
  obtain ⟨L, h1, h2, h3⟩ := id hP
  obtain ⟨j, hj⟩ := ol_pl_get (f := ol_cf cA ro I F) ((h1 a).mpr h0)
  have hj0 := hj
  rw [ol_cf_ints hr rfl] at hj
  refine va_zast C.1 C.2.1 C.2.2.2.2.2.1.1 h2 h3 hS j 1 hj rfl hin hdg (fun H1 locs1 hP1 hD1 hS1 => ?_)
  exact kk H1 locs1 ls (ol_set (I' := ol_u2 I a i.toNatClampNeg x) (F' := F) h1 h3 ((h1 a).mpr h0) hj0 (by rw [hr, hx]; unfold ol_u2; rw [va_up_self, ol_upd]; rfl) (fun b hb => ol_u2_a I x hb) (fun _ _ => rfl) hP1 hD1) hS1 hl
/-- a reference is stored: an object of a class that may stand there, or none -/
theorem ol_aast {a n t : Nat} {i : Int32} {cn : String} {r : Option Nat} {v : Value} (C : ol_Cx p s m args c cc nL own D cA A) (hv : v = va_rf r) (h0 : ro a ≠ 0) (hr : ol_ct (ro a) = .inr (t, n)) (ht : ol_ar t = true) (htt : (ol_tys cA)[t]? = some (cA t, .object cn)) (hin : vp_in i n) (hc : ∀ b, r = some b → ro b ≠ 0 ∧ ∃ ci q, ol_ct (ro b) = .inl ci ∧ ol_cl[ci]? = some q ∧ Cond.castable q.1 cn ∈ ol_n1) (hdg : decode cc pc = .ok (.aastore, 1)) (kk : ol_W p l e R s m args below meth c D cA A Q nL ro I (ol_u2 F a i.toNatClampNeg r) cells slots (pc + 1) lv rest) : ol_W p l e R s m args below meth c D cA A Q nL ro I F cells slots pc lv (v :: .int i :: .ref a :: rest) := by
  intro H locs ls hP hS hl
  subst hv
  obtain ⟨L, h1, h2, h3⟩ := id hP
  obtain ⟨j, hj⟩ := ol_pl_get (f := ol_cf cA ro I F) ((h1 a).mpr h0)
  have hj0 := hj
  rw [ol_cf_refs hr ht] at hj
  cases r with
  | none =>
    refine va_astqN C.1 C.2.1 C.2.2.2.2.2.1.1 h2 h3 hS j t hj htt hin hdg (fun H1 locs1 hP1 hD1 hS1 => ?_)
    exact kk H1 locs1 ls (ol_set (I' := I) (F' := ol_u2 F a i.toNatClampNeg none) h1 h3 ((h1 a).mpr h0) hj0 (by rw [hr]; unfold ol_u2; rw [va_up_self]; show _ = Sum.inl (cA t, n, if ol_ar t = true then _ else _); rw [if_pos ht]) (fun _ _ => rfl) (fun b hb => ol_u2_a F none hb) hP1 hD1) hS1 hl
  | some b =>
    obtain ⟨g0, ci, q, g1, g2, g3⟩ := hc b rfl
    obtain ⟨j2, hj2⟩ := ol_pl_get (f := ol_cf cA ro I F) ((h1 b).mpr g0)
    rw [ol_cf_obj g1] at hj2
    refine va_astqO C.1 C.2.1 C.2.2.2.2.2.1.1 h2 h3 hS j t j2 ci hj htt (C.2.2.2.2.2.1.2.1 _ g3) hj2 g2 hin hdg (fun H1 locs1 hP1 hD1 hS1 => ?_)
    exact kk H1 locs1 ls (ol_set (I' := I) (F' := ol_u2 F a i.toNatClampNeg (some b)) h1 h3 ((h1 a).mpr h0) hj0 (by rw [hr]; unfold ol_u2; rw [va_up_self]; show _ = Sum.inl (cA t, n, if ol_ar t = true then _ else _); rw [if_pos ht]) (fun _ _ => rfl) (fun b' hb => ol_u2_a F (some b) hb) hP1 hD1) hS1 hl
/-! new cells -/
theorem ol_new {ci index r : Nat} {q : vw_C} (C : ol_Cx p s m args c cc nL own D cA A) (hq : ol_cl[ci]? = some q) (hr : ol_ct r = .inl ci) (hr0 : r ≠ 0) (hcl : Cond.classLink own index q.1 ∈ ol_all) (hin : Cond.instantiable q.1 q.2.2 ∈ ol_all) (hini : Cond.initialized q.1 ∈ ol_all) (hcells : cells + 1 ≤ R.cells) (hslots : slots + q.2.2 ≤ R.slots) (hdg : decode cc pc = .ok (.new index, 3)) (kk : ∀ a, ro a = 0 → ol_W p l e R s m args below meth c D cA A Q nL (va_up ro a r) (va_up I a (fun _ => 0)) (va_up F a (fun _ => none)) (cells + 1) (slots + q.2.2) (pc + 3) lv (.ref a :: rest)) : ol_W p l e R s m args below meth c D cA A Q nL ro I F cells slots pc lv rest := by
  intro H locs ls hP hS hl
  obtain ⟨L, h1, h2, h3⟩ := id hP
  refine va_new (ci := ci) (fs := ol_fv (ol_fk ci) 0 (fun _ => 0) (fun _ => none)) C.1 C.2.1 C.2.2.2.2.1 (ol_cl_ws ci q hq) (ol_ty ci) (ol_cl_ty ci q hq) C.2.2.2.1 (C.2.2.2.2.1 _ hcl) (C.2.2.2.2.1 _ hin) (C.2.2.2.2.1 _ hini) C.2.2.2.2.2.1.1 h2 h3 hS C.2.2.2.2.2.2 hq (ol_cl_df ci q hq) hcells hslots hdg (fun a H1 hP1 hD1 hS1 => ?_)
  obtain ⟨g1, g2⟩ := ol_push (r := r) (I' := va_up I a (fun _ => 0)) (F' := va_up F a (fun _ => none)) h1 hr0 (by rw [hr, va_up_self, va_up_self]; rfl) (fun b hb => va_up_ne _ _ hb) (fun b hb => va_up_ne _ _ hb) hP1 hD1
  exact kk a g1 H1 locs ls g2 hS1 hl
theorem ol_newI {n r : Nat} {k : Int32} (C : ol_Cx p s m args c cc nL own D cA A) (hw : Cond.arrayClass .int ∈ ol_all) (hr : ol_ct r = .inr (0, n)) (hr0 : r ≠ 0) (hk : ¬ k < 0) (hn : k.toNatClampNeg = n) (hb : n * componentBytes .int ≤ 536870912) (hcells : cells + 1 ≤ R.cells) (hslots : slots + n ≤ R.slots) (hdg : decode cc pc = .ok (.newarray .int, 2)) (kk : ∀ a, ro a = 0 → ol_W p l e R s m args below meth c D cA A Q nL (va_up ro a r) (va_up I a (fun _ => 0)) (va_up F a (fun _ => none)) (cells + 1) (slots + n) (pc + 2) lv (.ref a :: rest)) : ol_W p l e R s m args below meth c D cA A Q nL ro I F cells slots pc lv (.int k :: rest) := by
  intro H locs ls hP hS hl
  obtain ⟨L, h1, h2, h3⟩ := id hP
  refine va_newa (atype := .int) (ty := .int) (a0 := (n, .inl (fun _ => 0))) C.1 C.2.1 (C.2.2.2.2.1 _ hw) rfl C.2.2.2.2.2.1.1 h2 h3 hS C.2.2.2.2.2.2 (fun cB => rfl) hk hn hb hcells hslots hdg (fun a cB H1 hK1 hP1 hD1 hS1 => ?_)
  have e1 : s.vm.findClass ("[" ++ (FieldType.int).toString) = some cB := (hK1.2 4 (cB, .int) rfl).2
  have e2 : s.vm.findClass ("[" ++ (FieldType.int).toString) = some (cA 0) := (C.2.2.2.2.2.1.1.2 0 (cA 0, .int) rfl).2
  have e3 : cB = cA 0 := Option.some.inj (e1.symm.trans e2)
  subst e3
  obtain ⟨g1, g2⟩ := ol_push (r := r) (I' := va_up I a (fun _ => 0)) (F' := va_up F a (fun _ => none)) h1 hr0 (by rw [hr, va_up_self, va_up_self]; rfl) (fun b hb => va_up_ne _ _ hb) (fun b hb => va_up_ne _ _ hb) hP1 hD1
  exact kk a g1 H1 locs ls g2 hS1 hl
theorem ol_newZ {n r : Nat} {k : Int32} (C : ol_Cx p s m args c cc nL own D cA A) (hw : Cond.arrayClass .boolean ∈ ol_all) (hr : ol_ct r = .inr (1, n)) (hr0 : r ≠ 0) (hk : ¬ k < 0) (hn : k.toNatClampNeg = n) (hb : n * componentBytes .boolean ≤ 536870912) (hcells : cells + 1 ≤ R.cells) (hslots : slots + n ≤ R.slots) (hdg : decode cc pc = .ok (.newarray .boolean, 2)) (kk : ∀ a, ro a = 0 → ol_W p l e R s m args below meth c D cA A Q nL (va_up ro a r) (va_up I a (fun _ => 0)) (va_up F a (fun _ => none)) (cells + 1) (slots + n) (pc + 2) lv (.ref a :: rest)) : ol_W p l e R s m args below meth c D cA A Q nL ro I F cells slots pc lv (.int k :: rest) := by
  intro H locs ls hP hS hl
  obtain ⟨L, h1, h2, h3⟩ := id hP
  refine va_newa (atype := .boolean) (ty := .boolean) (a0 := (n, .inl (fun _ => 0))) C.1 C.2.1 (C.2.2.2.2.1 _ hw) rfl C.2.2.2.2.2.1.1 h2 h3 hS C.2.2.2.2.2.2 (fun cB => rfl) hk hn hb hcells hslots hdg (fun a cB H1 hK1 hP1 hD1 hS1 => ?_)
  have e1 : s.vm.findClass ("[" ++ (FieldType.boolean).toString) = some cB := (hK1.2 4 (cB, .boolean) rfl).2
  have e2 : s.vm.findClass ("[" ++ (FieldType.boolean).toString) = some (cA 1) := (C.2.2.2.2.2.1.1.2 1 (cA 1, .boolean) rfl).2
  have e3 : cB = cA 1 := Option.some.inj (e1.symm.trans e2)
  subst e3
  obtain ⟨g1, g2⟩ := ol_push (r := r) (I' := va_up I a (fun _ => 0)) (F' := va_up F a (fun _ => none)) h1 hr0 (by rw [hr, va_up_self, va_up_self]; rfl) (fun b hb => va_up_ne _ _ hb) (fun b hb => va_up_ne _ _ hb) hP1 hD1
  exact kk a g1 H1 locs ls g2 hS1 hl
theorem ol_newQ {n t index r : Nat} {k : Int32} {cn : String} (C : ol_Cx p s m args c cc nL own D cA A) (ht : ol_ar t = true) (htt : (ol_tys cA)[t]? = some (cA t, .object cn)) (hcl : Cond.classLink own index cn ∈ ol_all) (hov : cn ∈ ol_n3) (hr : ol_ct r = .inr (t, n)) (hr0 : r ≠ 0) (hk : ¬ k < 0) (hn : k.toNatClampNeg = n) (hb : n * 4 ≤ 536870912) (hcells : cells + 1 ≤ R.cells) (hslots : slots + n ≤ R.slots) (hdg : decode cc pc = .ok (.anewarray index, 3)) (kk : ∀ a, ro a = 0 → ol_W p l e R s m args below meth c D cA A Q nL (va_up ro a r) (va_up I a (fun _ => 0)) (va_up F a (fun _ => none)) (cells + 1) (slots + n) (pc + 3) lv (.ref a :: rest)) : ol_W p l e R s m args below meth c D cA A Q nL ro I F cells slots pc lv (.int k :: rest) := by
  intro H locs ls hP hS hl
  obtain ⟨L, h1, h2, h3⟩ := id hP
  refine va_newq C.1 C.2.1 C.2.2.2.1 (C.2.2.2.2.1 _ hcl) (C.2.2.2.2.2.1.2.2.2 cn hov) C.2.2.2.2.2.1.1 h2 h3 hS C.2.2.2.2.2.2 hk hn hb hcells hslots hdg (fun a cB H1 hK1 hP1 hD1 hS1 => ?_)
  obtain ⟨-, -, -, -, -, e1⟩ := (hK1.2 4 (cB, .object cn) rfl).2
  obtain ⟨-, -, -, -, -, e2⟩ := (C.2.2.2.2.2.1.1.2 t (cA t, .object cn) htt).2
  have e3 : cB = cA t := Option.some.inj (e1.symm.trans e2)
  subst e3
  obtain ⟨g1, g2⟩ := ol_push (r := r) (I' := va_up I a (fun _ => 0)) (F' := va_up F a (fun _ => none)) h1 hr0 (by rw [hr, va_up_self, va_up_self]; show _ = Sum.inl (cA t, n, if ol_ar t = true then _ else _); rw [if_pos ht]) (fun b hb => va_up_ne _ _ hb) (fun b hb => va_up_ne _ _ hb) hP1 hD1
  exact kk a g1 H1 locs ls g2 hS1 hl
/-! instanceof and checkcast -/
theorem ol_recv {H : Heap} {a ci : Nat} {q : vw_C} (C : ol_Cx p s m args c cc nL own D cA A) (hP : ol_PG D cA A ro I F H) (h0 : ro a ≠ 0) (hr : ol_ct (ro a) = .inl ci) (hq : ol_cl[ci]? = some q) : ∃ cell : Cell, H[a]? = some cell ∧ cell.vm.isStatics = false ∧ s.vm.findClass q.1 = some cell.cls := by
  obtain ⟨L, h1, h2, h3⟩ := hP
  obtain ⟨j, hj⟩ := ol_pl_get (f := ol_cf cA ro I F) ((h1 a).mpr h0)
  rw [ol_cf_obj hr] at hj
  exact va_recv C.2.2.2.2.2.1.1 h2 hq hj
theorem ol_instY {a ci index : Nat} {q : vw_C} {cn : String} (C : ol_Cx p s m args c cc nL own D cA A) (h0 : ro a ≠ 0) (hr : ol_ct (ro a) = .inl ci) (hq : ol_cl[ci]? = some q) (hcl : Cond.classLink own index cn ∈ ol_all) (hc : Cond.castable q.1 cn ∈ ol_n1) (hdg : decode cc pc = .ok (.instanceof index, 3)) (kk : ol_W p l e R s m args below meth c D cA A Q nL ro I F cells slots (pc + 3) lv (.int 1 :: rest)) : ol_W p l e R s m args below meth c D cA A Q nL ro I F cells slots pc lv (.ref a :: rest) :=
  fun H locs ls hP hS hl => va_instY C.1 C.2.1 C.2.2.2.1 (C.2.2.2.2.1 _ hcl) (C.2.2.2.2.2.1.2.1 _ hc) (ol_recv C hP h0 hr hq) hdg (kk H locs ls hP hS hl)
theorem ol_instNo {a ci index : Nat} {q : vw_C} {cn : String} (C : ol_Cx p s m args c cc nL own D cA A) (h0 : ro a ≠ 0) (hr : ol_ct (ro a) = .inl ci) (hq : ol_cl[ci]? = some q) (hcl : Cond.classLink own index cn ∈ ol_all) (hc : (q.1, cn) ∈ ol_n2) (hdg : decode cc pc = .ok (.instanceof index, 3)) (kk : ol_W p l e R s m args below meth c D cA A Q nL ro I F cells slots (pc + 3) lv (.int 0 :: rest)) : ol_W p l e R s m args below meth c D cA A Q nL ro I F cells slots pc lv (.ref a :: rest) :=
  fun H locs ls hP hS hl => va_instNo C.1 C.2.1 C.2.2.2.1 (C.2.2.2.2.1 _ hcl) (C.2.2.2.2.2.1.2.2.1 _ hc) (ol_recv C hP h0 hr hq) hdg (kk H locs ls hP hS hl)
theorem ol_instN {index : Nat} (C : ol_Cx p s m args c cc nL own D cA A) (hdg : decode cc pc = .ok (.instanceof index, 3)) (kk : ol_W p l e R s m args below meth c D cA A Q nL ro I F cells slots (pc + 3) lv (.int 0 :: rest)) : ol_W p l e R s m args below meth c D cA A Q nL ro I F cells slots pc lv (.null :: rest) :=
  fun H locs ls hP hS hl => lv_instN C.1 C.2.1 hdg (kk H locs ls hP hS hl)
theorem ol_cast {a ci index : Nat} {q : vw_C} {cn : String} (C : ol_Cx p s m args c cc nL own D cA A) (h0 : ro a ≠ 0) (hr : ol_ct (ro a) = .inl ci) (hq : ol_cl[ci]? = some q) (hcl : Cond.classLink own index cn ∈ ol_all) (hc : Cond.castable q.1 cn ∈ ol_n1) (hdg : decode cc pc = .ok (.checkcast index, 3)) (kk : ol_W p l e R s m args below meth c D cA A Q nL ro I F cells slots (pc + 3) lv (.ref a :: rest)) : ol_W p l e R s m args below meth c D cA A Q nL ro I F cells slots pc lv (.ref a :: rest) :=
  fun H locs ls hP hS hl => va_castY C.1 C.2.1 C.2.2.2.1 (C.2.2.2.2.1 _ hcl) (C.2.2.2.2.2.1.2.1 _ hc) (ol_recv C hP h0 hr hq) hdg (kk H locs ls hP hS hl)
end OLR
/-! contracts -/
def ol_fr (ro : Nat → Nat) (sz : Nat) : Nat → Prop := fun q => ro q ≠ 0 ∨ sz ≤ q
def ol_Pc (D : va_G) (cA : Nat → ClassId) (av : List Value) (ro : Nat → Nat) (I : Nat → Nat → Int32) (F : Nat → Nat → Option Nat) (sz : Nat) : Array Value → State → Prop := va_Pc av (fun U => U.heap.size = sz ∧ ol_PG D cA (fun _ => True) ro I F U.heap ∧ ol_KU D cA U)
def ol_Qc (D : va_G) (cA : Nat → ClassId) (ro : Nat → Nat) (post : Option Value → (Nat → Nat) → (Nat → Nat → Int32) → (Nat → Nat → Option Nat) → Prop) (sz : Nat) : Array Value → State → Outcome → State → Prop := fun _ st oc t => (∃ (v : Option Value) (ro' : Nat → Nat) (I' : Nat → Nat → Int32) (F' : Nat → Nat → Option Nat), oc = .returned v ∧ post v ro' I' F' ∧ ol_PG D cA (ol_fr ro sz) ro' I' F' t.heap) ∧ va_F (ol_fr ro sz) st t
/-- A METHOD'S CONTRACT over the typed memory: from (ro, I, F) with these arguments it returns, and 'post' holds of answer and memory -/
def ol_M (l : Launch) (D : va_G) (cA : Nat → ClassId) (y : MethodName) (b : ByteArray) (n : Nat) (ret : Option FieldType) (rm : Room) (av : List Value) (ro : Nat → Nat) (I : Nat → Nat → Int32) (F : Nat → Nat → Option Nat) (post : Option Value → (Nat → Nat) → (Nat → Nat → Int32) → (Nat → Nat → Option Nat) → Prop) : Prop :=
  ∀ sz : Nat, Met l y (.code y b n ret :: ol_all) rm (ol_Pc D cA av ro I F sz) (ol_Qc D cA ro post sz) rm.cells rm.slots (ol_fr ro sz)
/-- where a method's walk ends -/
def ol_Q (D : va_G) (cA : Nat → ClassId) (below : List Frame) (args : Array Value) (s : State) (rm : Room) (ro : Nat → Nat) (post : Option Value → (Nat → Nat) → (Nat → Nat → Int32) → (Nat → Nat → Option Nat) → Prop) : State → Prop := MQ below (ol_Qc D cA ro post s.heap.size) args s rm.cells rm.slots (ol_fr ro s.heap.size)
theorem ol_M.of {l : Launch} {D : va_G} {cA : Nat → ClassId} {y : MethodName} {b : ByteArray} {n : Nat} {ret : Option FieldType} {rm : Room} {av : List Value} {ro : Nat → Nat} {I : Nat → Nat → Int32} {F : Nat → Nat → Option Nat} {post : Option Value → (Nat → Nat) → (Nat → Nat → Int32) → (Nat → Nat → Option Nat) → Prop} (hy : plainName y.cls = true) (hlen : av.length ≤ n) (hcat : ∀ v ∈ av, v.category = 1)
    (body : ∀ (p : Program) (e : Env) (s : State) (m : MethodId) (args : Array Value) (below : List Frame) (meth : Method) (c : Code), ol_Cx p s m args c b n y.cls D cA (ol_fr ro s.heap.size) → meth.sig.returnType = ret → meth.locks = false → meth.name = y.name → ol_W p l e rm s m args below meth c D cA (ol_fr ro s.heap.size) (ol_Q D cA below args s rm ro post) n ro I F 0 0 0 (av.map some ++ List.replicate (n - av.length) none) []) : ol_M l D cA y b n ret rm av ro I F post := by
  intro sz
  refine Met.ofW (cc := b) (maxL := n) (ret := ret) hy rfl ?_
  intro p e s m args below meth c s₁ B hml hv
  obtain ⟨rfl, hsz, hP, hK⟩ := hv
  subst hsz
  have hts := atoms_spec (ws := .code y b n ret :: ol_all) B.pre
  have hown : s.vm.findClass y.cls = some m.cls := findClass_of_methodNamed B.named
  have hin : meth.name = y.name := (name_of_methodNamed B.named B.method).1
  have hsl : ∀ vs : List Value, (∀ v ∈ vs, v.category = 1) → (lg_sl vs).length = vs.length := by
    intro vs
    induction vs with
    | nil => intro _; rfl
    | cons v t ih =>
      intro h
      have h1 : v.category = 1 := h v List.mem_cons_self
      have h2 := ih (fun w hw => h w (List.mem_cons_of_mem _ hw))
      simp only [lg_sl, List.flatMap_cons, List.length_append, List.length_cons] at h2 ⊢
      rw [if_neg (by rw [h1]; decide), h2]
      simp
      omega
  have hl := lv_entry av (n := n) (by rw [hsl av hcat]; exact hlen)
  rw [lg_entry_eq]
  have hLH := ol_LH.entry (n - av.length) hcat hl
  refine body p e s m _ below meth c ⟨B.exec, B.bytes, hml, hown, fun w hw => hts w (List.mem_cons_of_mem _ hw), hK, fun q h => Or.inr h⟩ B.returns B.notSynchronized hin s.heap [] _ (hP.weaken (fun a ha _ => Or.inl ha)) va_S.rf hLH
section OLE
variable {p : Program} {l : Launch} {e : Env} {R : Room} {s : State} {m : MethodId} {args : Array Value} {below : List Frame} {meth : Method} {c : Code} {D : va_G} {cA : Nat → ClassId} {A : Nat → Prop} {Q : State → Prop} {nL : Nat} {ro : Nat → Nat} {I : Nat → Nat → Int32} {F : Nat → Nat → Option Nat} {cells slots pc : Nat} {lv : List (Option Value)} {rest : List Value} {cc : ByteArray} {own : String}
variable {rm : Room} {ro0 : Nat → Nat} {post : Option Value → (Nat → Nat) → (Nat → Nat → Int32) → (Nat → Nat → Option Nat) → Prop}
theorem ol_iret {x : Int32} {ty : FieldType} (C : ol_Cx p s m args c cc nL own D cA (ol_fr ro0 s.heap.size)) (hr : meth.sig.returnType = some ty) (hlk : meth.locks = false) (hn : narrow ty (.int x) = .int x) (hc1 : cells ≤ rm.cells) (hc2 : slots ≤ rm.slots) (hdg : decode cc pc = .ok (.ireturn, 1)) (hp : post (some (.int x)) ro I F) : ol_W p l e R s m args below meth c D cA (ol_fr ro0 s.heap.size) (ol_Q D cA below args s rm ro0 post) nL ro I F cells slots pc lv [.int x] := by
  intro H locs ls hP hS hl
  refine W.widen hc1 hc2 ?_
  exact W.zret C.1 C.2.1 hr hn (fun t ht hW => ⟨⟨_, ro, I, F, rfl, hp, by rw [ht]; exact hP⟩, hS.F ht⟩) hS.2.2 hdg hlk
theorem ol_aret {r : Option Nat} {v : Value} {rt : FieldType} (C : ol_Cx p s m args c cc nL own D cA (ol_fr ro0 s.heap.size)) (hv : v = va_rf r) (hr : meth.sig.returnType = some rt) (hrt : (∃ n, rt = .object n) ∨ ∃ t, rt = .array t) (hlk : meth.locks = false) (hc1 : cells ≤ rm.cells) (hc2 : slots ≤ rm.slots) (hdg : decode cc pc = .ok (.areturn, 1)) (hp : post (some (va_rf r)) ro I F) : ol_W p l e R s m args below meth c D cA (ol_fr ro0 s.heap.size) (ol_Q D cA below args s rm ro0 post) nL ro I F cells slots pc lv [v] := by
  intro H locs ls hP hS hl
  subst hv
  refine W.widen hc1 hc2 ?_
  exact W.aret C.1 C.2.1 hr hrt (va_rf_or r) (fun t ht hW => ⟨⟨_, ro, I, F, rfl, hp, by rw [ht]; exact hP⟩, hS.F ht⟩) hS.2.2 hdg hlk
theorem ol_vret (C : ol_Cx p s m args c cc nL own D cA (ol_fr ro0 s.heap.size)) (hr : meth.sig.returnType = none) (hlk : meth.locks = false) (hc1 : cells ≤ rm.cells) (hc2 : slots ≤ rm.slots) (hdg : decode cc pc = .ok (.return_, 1)) (hp : post none ro I F) : ol_W p l e R s m args below meth c D cA (ol_fr ro0 s.heap.size) (ol_Q D cA below args s rm ro0 post) nL ro I F cells slots pc lv [] := by
  intro H locs ls hP hS hl
  refine W.widen hc1 hc2 ?_
  exact W.vret C.1 C.2.1 hr (fun t ht hW => ⟨⟨_, ro, I, F, rfl, hp, by rw [ht]; exact hP⟩, hS.F ht⟩) hS.2.2 hdg hlk
/-- behind a call -/
theorem ol_fin {y : MethodName} {b : ByteArray} {n : Nat} {ret : Option FieldType} {H : Heap} {locs : List Loc} {ls : Array Slot} {st0 : List Value} {a : Array Value} (C : ol_Cx p s m args c cc nL own D cA A) (hP : ol_PG D cA A ro I F H) (hS : va_S A s.heap H locs) (hl : ol_LH ls nL lv)
    (hr : va_Run p l e R s m args below meth c H locs cells slots rm.cells rm.slots (F0 m pc ls st0) rest (ol_Qc D cA ro post H.size a) (ol_fr ro H.size))
    (kk : ∀ (v : Option Value) (ro' : Nat → Nat) (I' : Nat → Nat → Int32) (F' : Nat → Nat → Option Nat), post v ro' I' F' → ol_W p l e R s m args below meth c D cA A Q nL ro' I' F' (cells + rm.cells) (slots + rm.slots) (pc + 3) lv (v.toList ++ rest)) : W p l e R s m args below meth c H locs cells slots Q (F0 m pc ls st0) := by
  have hA : ∀ q, ol_fr ro H.size q → A q := by
    intro q h
    rcases h with h | h
    · exact hP.mem h
    · exact C.2.2.2.2.2.2 q (Nat.le_trans hS.1 h)
  intro T hT X
  obtain ⟨v, st₀, t, T', L, h0, X', hL, e1, e2, ⟨⟨v', ro', I', F', hv, hp, hPG⟩, hz, hk⟩, st⟩ := hr T hT X
  cases hv
  rw [h0] at hz hk
  obtain ⟨t2, a1, b1⟩ := kk v ro' I' F' hp T'.heap (locs ++ L) ls (by rw [e1]; exact hPG.weaken (fun q _ h => hA q h))
    ⟨Nat.le_trans hS.1 (by rw [e1]; exact hz), fun q h1 h2 => by rw [e1, hk q (Nat.lt_of_lt_of_le h1 hS.1) (fun z => h2 (hA q z))]; exact hS.2.1 q h1 h2, fun q hq => by
      rcases List.mem_append.mp hq with h | h
      · exact hS.2.2 q h
      · exact hA _ (hL q h)⟩ hl T' rfl X'
  exact ⟨t2, st t2 a1, b1⟩
theorem ol_blind {av : List Value} {sz : Nat} : FrameBlind (ol_Pc D cA av ro I F sz) := by
  intro a U g mk q
  obtain ⟨q0, q1, qP, qK⟩ := q
  exact ⟨q0, q1, qP, ol_KU.same (u := U) (U := U.calling g mk a) rfl qK⟩
theorem ol_pre {av : List Value} {H : Heap} (C : ol_Cx p s m args c cc nL own D cA A) (hP : ol_PG D cA A ro I F H) : ∀ U : State, U.heap = H → s.WarmedH U.vm → ol_Pc D cA av ro I F H.size av.toArray U := by
  intro U hU hW
  exact ⟨rfl, by rw [hU], by rw [hU]; exact hP.weaken (fun _ _ _ => trivial), ol_KU.warm hW C.2.2.2.2.2.1⟩
theorem ol_good {y : MethodName} {b : ByteArray} {n : Nat} {ret : Option FieldType} (hcode : Cond.code y b n ret ∈ ol_all) : GoodIn ol_all (.code y b n ret :: ol_all) := by
  intro w hw
  rcases List.mem_cons.mp hw with rfl | h
  · exact ol_all_good _ hcode
  · exact ol_all_good _ h
abbrev ol_mh (y : MethodName) (k : Nat) : Prop := y.cls ≠ "java/lang/invoke/MethodHandle" ∧ y.cls ≠ "java/lang/invoke/VarHandle" ∧ (parseMethodDescriptor y.desc).map (fun d => d.parameters.length) = some k
abbrev ol_rm (R rm : Room) (n cells slots : Nat) : Prop := (rm.frames + 1 ≤ R.frames ∧ 8 + (n + 11) + rm.locals ≤ R.locals) ∧ (cells + rm.cells ≤ R.cells ∧ slots + rm.slots ≤ R.slots)
theorem ol_callS {y : MethodName} {b : ByteArray} {n index : Nat} {ret : Option FieldType} {As st : List Value} (C : ol_Cx p s m args c cc nL own D cA A) (hM : ol_M l D cA y b n ret rm As ro I F post) (hcode : Cond.code y b n ret ∈ ol_all) (hini : Cond.initialized y.cls ∈ ol_all) (hlink : Cond.methodLink own index y ∈ ol_all) (hsta : Cond.static y ∈ ol_all) (hmh : ol_mh y As.length) (hR : ol_rm R rm n cells slots) (hst : st = As.reverse ++ rest) (hW : (rest.map fun v => v.category).sum ≤ 8) (hdg : decode cc pc = .ok (.invokestatic index, 3))
    (kk : ∀ (v : Option Value) (ro' : Nat → Nat) (I' : Nat → Nat → Int32) (F' : Nat → Nat → Option Nat), post v ro' I' F' → ol_W p l e R s m args below meth c D cA A Q nL ro' I' F' (cells + rm.cells) (slots + rm.slots) (pc + 3) lv (v.toList ++ rest)) : ol_W p l e R s m args below meth c D cA A Q nL ro I F cells slots pc lv st := by
  intro H locs ls hP hS hl
  refine ol_fin (y := y) (b := b) (n := n) (ret := ret) C hP hS hl (va_runS (As := As) (rest := rest) ⟨C.1, C.2.1, C.2.2.1, C.2.2.2.1, C.2.2.2.2.1⟩ (hM H.size) ⟨callB_of As.length C.2.2.2.2.1 (ol_good hcode) rfl rfl rfl (C.2.2.2.2.1 _ hini) (C.2.2.2.2.1 _ hlink) hmh hR.1, C.2.2.2.2.1 _ hsta⟩ ⟨ol_blind, ol_pre C hP⟩ rfl rfl hl.1.1 hst (lv_room hW) hdg hR.2) kk
theorem ol_callI {y : MethodName} {b : ByteArray} {n index a : Nat} {As st : List Value} (C : ol_Cx p s m args c cc nL own D cA A) (hM : ol_M l D cA y b n none rm (.ref a :: As) ro I F post) (hcode : Cond.code y b n none ∈ ol_all) (hini : Cond.initialized y.cls ∈ ol_all) (hlink : Cond.methodLink own index y ∈ ol_all) (hinm : Cond.instanceMethod y ∈ ol_all) (hy1 : y.name = "<init>") (hmh : ol_mh y As.length) (hR : ol_rm R rm n cells slots) (hst : st = As.reverse ++ .ref a :: rest) (hW : (rest.map fun v => v.category).sum ≤ 8) (hdg : decode cc pc = .ok (.invokespecial index, 3))
    (kk : ∀ (v : Option Value) (ro' : Nat → Nat) (I' : Nat → Nat → Int32) (F' : Nat → Nat → Option Nat), post v ro' I' F' → ol_W p l e R s m args below meth c D cA A Q nL ro' I' F' (cells + rm.cells) (slots + rm.slots) (pc + 3) lv (v.toList ++ rest)) : ol_W p l e R s m args below meth c D cA A Q nL ro I F cells slots pc lv st := by
  intro H locs ls hP hS hl
  refine ol_fin (y := y) (b := b) (n := n) (ret := none) C hP hS hl (va_runI (As := As) (rest := rest) (b := a) ⟨C.1, C.2.1, C.2.2.1, C.2.2.2.1, C.2.2.2.2.1⟩ (hM H.size) ⟨callB_of As.length C.2.2.2.2.1 (ol_good hcode) rfl rfl rfl (C.2.2.2.2.1 _ hini) (C.2.2.2.2.1 _ hlink) hmh hR.1, hy1, C.2.2.2.2.1 _ hinm⟩ ⟨ol_blind, ol_pre C hP⟩ rfl rfl hl.1.1 hst (lv_room hW) hdg hR.2) kk
theorem ol_callV {y : MethodName} {b : ByteArray} {n index a ci : Nat} {q : vw_C} {ret : Option FieldType} {As st : List Value} (C : ol_Cx p s m args c cc nL own D cA A) (hM : ol_M l D cA y b n ret rm (.ref a :: As) ro I F post) (h0 : ro a ≠ 0) (hr : ol_ct (ro a) = .inl ci) (hq : ol_cl[ci]? = some q) (hcode : Cond.code y b n ret ∈ ol_all) (hini : Cond.initialized y.cls ∈ ol_all) (hlink : Cond.methodLink own index y ∈ ol_all) (hinm : Cond.instanceMethod y ∈ ol_all) (hsel : Cond.selects q.1 y y ∈ ol_all) (hmh : ol_mh y As.length) (hR : ol_rm R rm n cells slots) (hst : st = As.reverse ++ .ref a :: rest) (hW : (rest.map fun v => v.category).sum ≤ 8) (hdg : decode cc pc = .ok (.invokevirtual index, 3))
    (kk : ∀ (v : Option Value) (ro' : Nat → Nat) (I' : Nat → Nat → Int32) (F' : Nat → Nat → Option Nat), post v ro' I' F' → ol_W p l e R s m args below meth c D cA A Q nL ro' I' F' (cells + rm.cells) (slots + rm.slots) (pc + 3) lv (v.toList ++ rest)) : ol_W p l e R s m args below meth c D cA A Q nL ro I F cells slots pc lv st := by
  intro H locs ls hP hS hl
  refine ol_fin (y := y) (b := b) (n := n) (ret := ret) C hP hS hl (va_runV (As := As) (rest := rest) (b := a) (C := q.1) ⟨C.1, C.2.1, C.2.2.1, C.2.2.2.1, C.2.2.2.2.1⟩ (hM H.size) ⟨callB_of As.length C.2.2.2.2.1 (ol_good hcode) rfl rfl rfl (C.2.2.2.2.1 _ hini) (C.2.2.2.2.1 _ hlink) hmh hR.1, C.2.2.2.2.1 _ hinm, C.2.2.2.2.1 _ hsel⟩ ⟨ol_blind, ol_recv C hP h0 hr hq, ol_pre C hP⟩ rfl rfl hl.1.1 hst (lv_room hW) hdg hR.2) kk
/-- a call that names x and runs y: inherited, overridden or abstract; x is declared by 'owner' -/
theorem ol_callU {x y : MethodName} {owner : String} {b : ByteArray} {n index a ci : Nat} {q : vw_C} {ret : Option FieldType} {As st : List Value} (C : ol_Cx p s m args c cc nL own D cA A) (hM : ol_M l D cA y b n ret rm (.ref a :: As) ro I F post) (h0 : ro a ≠ 0) (hr : ol_ct (ro a) = .inl ci) (hq : ol_cl[ci]? = some q) (hcode : Cond.code y b n ret ∈ ol_all) (hini : Cond.initialized y.cls ∈ ol_all) (hlink : Cond.methodLink own index x ∈ ol_all) (hsame : Cond.sameMethod x.cls owner x.name x.desc ∈ ol_all) (hdec : Cond.declares ⟨owner, x.name, x.desc⟩ ∈ ol_n1) (hinm : Cond.instanceMethod y ∈ ol_all) (hsel : Cond.selects q.1 x y ∈ ol_all) (hmh : owner ≠ "java/lang/invoke/MethodHandle" ∧ owner ≠ "java/lang/invoke/VarHandle" ∧ (parseMethodDescriptor x.desc).map (fun d => d.parameters.length) = some As.length) (hR : ol_rm R rm n cells slots) (hst : st = As.reverse ++ .ref a :: rest) (hW : (rest.map fun v => v.category).sum ≤ 8) (hdg : decode cc pc = .ok (.invokevirtual index, 3))
    (kk : ∀ (v : Option Value) (ro' : Nat → Nat) (I' : Nat → Nat → Int32) (F' : Nat → Nat → Option Nat), post v ro' I' F' → ol_W p l e R s m args below meth c D cA A Q nL ro' I' F' (cells + rm.cells) (slots + rm.slots) (pc + 3) lv (v.toList ++ rest)) : ol_W p l e R s m args below meth c D cA A Q nL ro I F cells slots pc lv st := by
  intro H locs ls hP hS hl
  have hcw : va_CU R s args own q.1 owner index x y b n ret (.code y b n ret :: ol_all) rm rm.cells rm.slots As.length := by
    refine ⟨⟨rfl, rfl, hR.1.1, hR.1.2, pay_in C.2.2.2.2.1 (ol_good hcode), List.mem_cons_self⟩, C.2.2.2.2.1 _ hcode, C.2.2.2.2.1 _ hini, ⟨hmh.1, hmh.2.1⟩, fun sig h => ?_, C.2.2.2.2.1 _ hlink, C.2.2.2.2.1 _ hsame, va_Decl.abs (C.2.2.2.2.2.1.2.1 _ hdec), C.2.2.2.2.1 _ hsel, C.2.2.2.2.1 _ hinm⟩
    have h2 := hmh.2.2
    rw [h] at h2
    exact (Option.some.inj h2).symm
  refine ol_fin (y := y) (b := b) (n := n) (ret := ret) C hP hS hl (va_runU (As := As) (rest := rest) (b := a) (C := q.1) (owner := owner) (x := x) ⟨C.1, C.2.1, C.2.2.1, C.2.2.2.1, C.2.2.2.2.1⟩ (hM H.size) hcw ⟨ol_blind, ol_recv C hP h0 hr hq, ol_pre C hP⟩ rfl rfl hl.1.1 hst (lv_room hW) hdg hR.2) kk
/-- a private static method of a nest mate -/
theorem ol_callSN {y : MethodName} {b : ByteArray} {n index : Nat} {host : String} {ret : Option FieldType} {As st : List Value} (C : ol_Cx p s m args c cc nL own D cA A) (hM : ol_M l D cA y b n ret rm As ro I F post) (hcode : Cond.code y b n ret ∈ ol_all) (hini : Cond.initialized y.cls ∈ ol_all) (hlink : Cond.methodLinkNest own index y host ∈ ol_n1) (hsta : Cond.static y ∈ ol_all) (hmh : ol_mh y As.length) (hR : ol_rm R rm n cells slots) (hst : st = As.reverse ++ rest) (hW : (rest.map fun v => v.category).sum ≤ 8) (hdg : decode cc pc = .ok (.invokestatic index, 3))
    (kk : ∀ (v : Option Value) (ro' : Nat → Nat) (I' : Nat → Nat → Int32) (F' : Nat → Nat → Option Nat), post v ro' I' F' → ol_W p l e R s m args below meth c D cA A Q nL ro' I' F' (cells + rm.cells) (slots + rm.slots) (pc + 3) lv (v.toList ++ rest)) : ol_W p l e R s m args below meth c D cA A Q nL ro I F cells slots pc lv st := by
  intro H locs ls hP hS hl
  refine ol_fin (y := y) (b := b) (n := n) (ret := ret) C hP hS hl (va_runSN (As := As) (rest := rest) ⟨C.1, C.2.1, C.2.2.1, C.2.2.2.1, C.2.2.2.2.1⟩ (hM H.size) ⟨va_cnB As.length C.2.2.2.2.1 (ol_good hcode) rfl rfl rfl (C.2.2.2.2.2.1.2.1 _ hlink) (C.2.2.2.2.1 _ hini) hmh hR.1, C.2.2.2.2.1 _ hsta, trivial⟩ ⟨ol_blind, ol_pre C hP⟩ rfl rfl hl.1.1 hst (lv_room hW) hdg hR.2) kk
/-- a method of the class above, by super -/
theorem ol_callSU {y : MethodName} {b : ByteArray} {n index a ci : Nat} {q : vw_C} {ret : Option FieldType} {As st : List Value} (C : ol_Cx p s m args c cc nL own D cA A) (hM : ol_M l D cA y b n ret rm (.ref a :: As) ro I F post) (h0 : ro a ≠ 0) (hr : ol_ct (ro a) = .inl ci) (hq : ol_cl[ci]? = some q) (hcode : Cond.code y b n ret ∈ ol_all) (hini : Cond.initialized y.cls ∈ ol_all) (hlink : Cond.methodLink own index y ∈ ol_all) (hsame : Cond.sameMethod y.cls y.cls y.name y.desc ∈ ol_all) (hsup : Cond.superclass own y.cls ∈ ol_all) (hinm : Cond.instanceMethod y ∈ ol_all) (hmh : y.name ≠ "<init>" ∧ (parseMethodDescriptor y.desc).map (fun d => d.parameters.length) = some As.length) (hR : ol_rm R rm n cells slots) (hst : st = As.reverse ++ .ref a :: rest) (hW : (rest.map fun v => v.category).sum ≤ 8) (hdg : decode cc pc = .ok (.invokespecial index, 3))
    (kk : ∀ (v : Option Value) (ro' : Nat → Nat) (I' : Nat → Nat → Int32) (F' : Nat → Nat → Option Nat), post v ro' I' F' → ol_W p l e R s m args below meth c D cA A Q nL ro' I' F' (cells + rm.cells) (slots + rm.slots) (pc + 3) lv (v.toList ++ rest)) : ol_W p l e R s m args below meth c D cA A Q nL ro I F cells slots pc lv st := by
  intro H locs ls hP hS hl
  have hcw : va_CS R s args own index y b n ret (.code y b n ret :: ol_all) rm rm.cells rm.slots As.length := by
    refine ⟨⟨rfl, rfl, hR.1.1, hR.1.2, pay_in C.2.2.2.2.1 (ol_good hcode), List.mem_cons_self⟩, C.2.2.2.2.1 _ hlink, C.2.2.2.2.1 _ hsame, C.2.2.2.2.1 _ hsup, C.2.2.2.2.1 _ hinm, C.2.2.2.2.1 _ hini, C.2.2.2.2.1 _ hcode, hmh.1, fun sig h => ?_⟩
    have h2 := hmh.2
    rw [h] at h2
    exact (Option.some.inj h2).symm
  refine ol_fin (y := y) (b := b) (n := n) (ret := ret) C hP hS hl (va_runSU (As := As) (rest := rest) (b := a) (C := q.1) (C.2.2.2.2.2.1.1.1 ci q hq).2 ⟨C.1, C.2.1, C.2.2.1, C.2.2.2.1, C.2.2.2.2.1⟩ (hM H.size) hcw ⟨ol_blind, ol_recv C hP h0 hr hq, ol_pre C hP⟩ rfl rfl hl.1.1 hst (lv_room hW) hdg hR.2) kk
end OLE
