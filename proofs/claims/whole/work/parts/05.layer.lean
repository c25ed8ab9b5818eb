/-! THE LAYER: a typed memory over the kit's pools. Locals as a list, the heap as a role of each address, its ints, its references. -/
def ol_las : Nat → List (Option Value) → List (Nat × Value)
  | _, [] => []
  | k, none :: t => ol_las (k + 1) t
  | k, some v :: t => (k, v) :: ol_las (k + 1) t
theorem ol_las_mem : ∀ (lv : List (Option Value)) (k i : Nat) (v : Value), (i, v) ∈ ol_las k lv ↔ k ≤ i ∧ lv[i - k]? = some (some v)
  | [], k, i, v => by simp [ol_las]
  | none :: t, k, i, v => by
    rw [ol_las, ol_las_mem t (k + 1) i v]
    constructor
    · rintro ⟨h1, h2⟩
      refine ⟨by omega, ?_⟩
      rw [show i - k = (i - (k + 1)) + 1 by omega, List.getElem?_cons_succ]
      exact h2
    · rintro ⟨h1, h2⟩
      by_cases h : i = k
      · subst h
        rw [Nat.sub_self] at h2
        cases h2
      · refine ⟨by omega, ?_⟩
        rw [show i - k = (i - (k + 1)) + 1 by omega, List.getElem?_cons_succ] at h2
        exact h2
  | some w :: t, k, i, v => by
    rw [ol_las, List.mem_cons, ol_las_mem t (k + 1) i v]
    constructor
    · rintro (h | ⟨h1, h2⟩)
      · have e1 : i = k := congrArg Prod.fst h
        have e2 : v = w := congrArg Prod.snd h
        subst e1; subst e2
        refine ⟨Nat.le_refl _, ?_⟩
        rw [Nat.sub_self]
        rfl
      · refine ⟨by omega, ?_⟩
        rw [show i - k = (i - (k + 1)) + 1 by omega, List.getElem?_cons_succ]
        exact h2
    · rintro ⟨h1, h2⟩
      by_cases h : i = k
      · subst h
        left
        rw [Nat.sub_self] at h2
        have e2 : w = v := Option.some.inj (Option.some.inj h2)
        rw [e2]
      · right
        refine ⟨by omega, ?_⟩
        rw [show i - k = (i - (k + 1)) + 1 by omega, List.getElem?_cons_succ] at h2
        exact h2
def ol_LH (ls : Array Slot) (nL : Nat) (lv : List (Option Value)) : Prop := lv_has ls nL (ol_las 0 lv) ∧ ∀ (i : Nat) (v : Value), lv[i]? = some (some v) → v.category = 1
theorem ol_LH.at {ls : Array Slot} {nL : Nat} {lv : List (Option Value)} (h : ol_LH ls nL lv) {i : Nat} {v : Value} (hv : lv[i]? = some (some v)) : ls[i]? = some (.val v) :=
  h.1.2.2 (i, v) ((ol_las_mem lv 0 i v).mpr ⟨Nat.zero_le _, hv⟩)
theorem ol_LH.sub {ls : Array Slot} {nL : Nat} {lv lv' : List (Option Value)} (h : ol_LH ls nL lv) (hs : ∀ (i : Nat) (v : Value), lv'[i]? = some (some v) → lv[i]? = some (some v)) : ol_LH ls nL lv' := by
  refine ⟨⟨h.1.1, h.1.2.1, fun q hq => ?_⟩, fun i v hv => h.2 i v (hs i v hv)⟩
  obtain ⟨i, v⟩ := q
  have h1 := (ol_las_mem lv' 0 i v).mp hq
  exact h.at (hs i v h1.2)
theorem ol_LH.store {ls ls' : Array Slot} {nL : Nat} {lv : List (Option Value)} {i : Nat} {v : Value} (h : ol_LH ls nL lv) (hc : v.category = 1) (hl : lv_has ls' nL ((i, v) :: (ol_las 0 lv).filter (fun q => !(q.1 == i) && !(q.1 + 1 == i && q.2.category == 2)))) : ol_LH ls' nL (lv.set i (some v)) := by
  have key : ∀ (j : Nat) (w : Value), (lv.set i (some v))[j]? = some (some w) → (j = i ∧ w = v) ∨ (j ≠ i ∧ lv[j]? = some (some w)) := by
    intro j w hj
    by_cases hji : j = i
    · subst hji
      by_cases hlen : j < lv.length
      · rw [List.getElem?_set_self hlen] at hj
        exact Or.inl ⟨rfl, (Option.some.inj (Option.some.inj hj)).symm⟩
      · rw [List.getElem?_eq_none (by rw [List.length_set]; omega)] at hj
        cases hj
    · rw [List.getElem?_set_ne (Ne.symm hji)] at hj
      exact Or.inr ⟨hji, hj⟩
  refine ⟨⟨hl.1, hl.2.1, fun q hq => ?_⟩, fun j w hj => ?_⟩
  · obtain ⟨j, w⟩ := q
    have h1 := ((ol_las_mem _ 0 j w).mp hq).2
    rcases key j w h1 with ⟨rfl, rfl⟩ | ⟨h2, h3⟩
    · exact hl.2.2 (j, w) List.mem_cons_self
    · refine hl.2.2 (j, w) (List.mem_cons_of_mem _ (List.mem_filter.mpr ⟨(ol_las_mem lv 0 j w).mpr ⟨Nat.zero_le _, h3⟩, ?_⟩))
      have h4 := h.2 j w h3
      simp [h2, h4]
  · rcases key j w hj with ⟨-, rfl⟩ | ⟨-, h3⟩
    · exact hc
    · exact h.2 j w h3
theorem ol_args : ∀ (vs : List Value) (k : Nat), (∀ v ∈ vs, v.category = 1) → lv_args k vs = ol_las k (vs.map some)
  | [], k, _ => rfl
  | v :: t, k, h => by
    have h1 : v.category = 1 := h v List.mem_cons_self
    rw [lv_args, if_neg (by rw [h1]; decide), List.map_cons, ol_las, ol_args t (k + 1) (fun w hw => h w (List.mem_cons_of_mem _ hw))]
theorem ol_LH.entry {ls : Array Slot} {n : Nat} {vs : List Value} (k : Nat) (hc : ∀ v ∈ vs, v.category = 1) (h : lv_has ls n (lv_args 0 vs)) : ol_LH ls n (vs.map some ++ List.replicate k none) := by
  rw [ol_args vs 0 hc] at h
  have h0 : ol_LH ls n (vs.map some) := by
    refine ⟨h, fun i v hv => ?_⟩
    rw [List.getElem?_map] at hv
    cases hi : vs[i]? with
    | none => rw [hi] at hv; cases hv
    | some w =>
      rw [hi] at hv
      have e : w = v := Option.some.inj (Option.some.inj hv)
      rw [← e]
      exact hc w (List.mem_of_getElem? hi)
  refine h0.sub (fun i v hv => ?_)
  by_cases hl : i < (vs.map some).length
  · rw [List.getElem?_append_left hl] at hv
    exact hv
  · rw [List.getElem?_append_right (by omega), List.getElem?_replicate] at hv
    split at hv
    · cases hv
    · cases hv
/-- a reference or none -/
theorem ol_rfc (r : Option Nat) : (va_rf r).category = 1 := by cases r <;> rfl
def ol_isq (v : Value) : Prop := ∃ r : Option Nat, v = va_rf r
theorem ol_isq_r (a : Nat) : ol_isq (.ref a) := ⟨some a, rfl⟩
theorem ol_isq_n : ol_isq .null := ⟨none, rfl⟩
theorem ol_isq_q (r : Option Nat) : ol_isq (va_rf r) := ⟨r, rfl⟩
/-- two steps down: row a, place k -/
def ol_u2 {α : Type} (I : Nat → Nat → α) (a k : Nat) (v : α) : Nat → Nat → α := va_up I a (va_up (I a) k v)
theorem ol_u2_s {α : Type} (I : Nat → Nat → α) (a k : Nat) (v : α) : ol_u2 I a k v a k = v := by simp [ol_u2, va_up]
theorem ol_u2_k {α : Type} (I : Nat → Nat → α) {a k j : Nat} (v : α) (h : j ≠ k) : ol_u2 I a k v a j = I a j := by simp [ol_u2, va_up, h]
theorem ol_u2_a {α : Type} (I : Nat → Nat → α) {a k b : Nat} (v : α) (h : b ≠ a) : ol_u2 I a k v b = I b := by simp [ol_u2, va_up, h]
theorem ol_u2_v {α : Type} (I : Nat → Nat → α) (a k : Nat) (v : α) (b j : Nat) : ol_u2 I a k v b j = if b = a ∧ j = k then v else I b j := by
  by_cases h : b = a
  · subst h
    by_cases h2 : j = k <;> simp [ol_u2, va_up, h2]
  · simp [ol_u2, va_up, h]
/-- the fields of an object: of each whether it is a reference -/
def ol_fv : List Bool → Nat → (Nat → Int32) → (Nat → Option Nat) → List Value
  | [], _, _, _ => []
  | b :: t, k, I, F => (if b = true then va_rf (F k) else .int (I k)) :: ol_fv t (k + 1) I F
theorem ol_fv_len : ∀ (ks : List Bool) (k : Nat) (I : Nat → Int32) (F : Nat → Option Nat), (ol_fv ks k I F).length = ks.length
  | [], _, _, _ => rfl
  | b :: t, k, I, F => by rw [ol_fv, List.length_cons, List.length_cons, ol_fv_len t]
theorem ol_fv_get : ∀ (ks : List Bool) (k0 k : Nat) (I : Nat → Int32) (F : Nat → Option Nat) (b : Bool), ks[k]? = some b → (ol_fv ks k0 I F)[k]? = some (if b = true then va_rf (F (k0 + k)) else .int (I (k0 + k)))
  | [], _, k, _, _, b, h => by simp at h
  | c :: t, k0, 0, I, F, b, h => by
    have e : c = b := Option.some.inj h
    subst e
    rfl
  | c :: t, k0, k + 1, I, F, b, h => by
    rw [List.getElem?_cons_succ] at h
    rw [ol_fv, List.getElem?_cons_succ, ol_fv_get t (k0 + 1) k I F b h]
    rw [show k0 + 1 + k = k0 + (k + 1) by omega]
theorem ol_fv_ext : ∀ (ks : List Bool) (k0 : Nat) (I I' : Nat → Int32) (F F' : Nat → Option Nat), (∀ k, ks[k]? = some false → I' (k0 + k) = I (k0 + k)) → (∀ k, ks[k]? = some true → F' (k0 + k) = F (k0 + k)) → ol_fv ks k0 I' F' = ol_fv ks k0 I F
  | [], _, _, _, _, _, _, _ => rfl
  | c :: t, k0, I, I', F, F', h1, h2 => by
    rw [ol_fv, ol_fv, ol_fv_ext t (k0 + 1) I I' F F' (fun k h => by have := h1 (k + 1) (by rw [List.getElem?_cons_succ]; exact h); rw [show k0 + 1 + k = k0 + (k + 1) by omega]; exact this) (fun k h => by have := h2 (k + 1) (by rw [List.getElem?_cons_succ]; exact h); rw [show k0 + 1 + k = k0 + (k + 1) by omega]; exact this)]
    cases c with
    | false => rw [if_neg (by decide), if_neg (by decide)]; have := h1 0 rfl; rw [Nat.add_zero] at this; rw [this]
    | true => rw [if_pos rfl, if_pos rfl]; have := h2 0 rfl; rw [Nat.add_zero] at this; rw [this]
theorem ol_fv_setI (ks : List Bool) (k : Nat) (I : Nat → Int32) (F : Nat → Option Nat) (v : Int32) (hk : ks[k]? = some false) : (ol_fv ks 0 I F).set k (.int v) = ol_fv ks 0 (va_up I k v) F := by
  apply List.ext_getElem?
  intro j
  have hl : k < (ol_fv ks 0 I F).length := by rw [ol_fv_len]; exact (List.getElem?_eq_some_iff.mp hk).1
  by_cases hj : j = k
  · subst hj
    rw [List.getElem?_set_self hl, ol_fv_get ks 0 j _ _ false hk, if_neg (by decide), Nat.zero_add, va_up_self]
  · rw [List.getElem?_set_ne (Ne.symm hj)]
    cases hb : ks[j]? with
    | none =>
      rw [List.getElem?_eq_none (by rw [ol_fv_len]; exact List.getElem?_eq_none_iff.mp hb), List.getElem?_eq_none (by rw [ol_fv_len]; exact List.getElem?_eq_none_iff.mp hb)]
    | some b =>
      rw [ol_fv_get ks 0 j _ _ b hb, ol_fv_get ks 0 j _ _ b hb, Nat.zero_add, va_up_ne _ _ hj]
theorem ol_fv_setF (ks : List Bool) (k : Nat) (I : Nat → Int32) (F : Nat → Option Nat) (v : Option Nat) (hk : ks[k]? = some true) : (ol_fv ks 0 I F).set k (va_rf v) = ol_fv ks 0 I (va_up F k v) := by
  apply List.ext_getElem?
  intro j
  have hl : k < (ol_fv ks 0 I F).length := by rw [ol_fv_len]; exact (List.getElem?_eq_some_iff.mp hk).1
  by_cases hj : j = k
  · subst hj
    rw [List.getElem?_set_self hl, ol_fv_get ks 0 j _ _ true hk, if_pos rfl, Nat.zero_add, va_up_self]
  · rw [List.getElem?_set_ne (Ne.symm hj)]
    cases hb : ks[j]? with
    | none =>
      rw [List.getElem?_eq_none (by rw [ol_fv_len]; exact List.getElem?_eq_none_iff.mp hb), List.getElem?_eq_none (by rw [ol_fv_len]; exact List.getElem?_eq_none_iff.mp hb)]
    | some b =>
      rw [ol_fv_get ks 0 j _ _ b hb, ol_fv_get ks 0 j _ _ b hb, Nat.zero_add, va_up_ne _ _ hj]
/-- what a new object of class ci holds -/
theorem ol_cl_df : ∀ (ci : Nat) (q : vw_C), ol_cl[ci]? = some q → ∀ j, j < q.2.2 → defaultValue (ol_ty ci j) = vp_V (ol_fv (ol_fk ci) 0 (fun _ => 0) (fun _ => none)) j := by
  intro ci q h
  match ci, h with
  | 0, h =>
    cases h
    intro j hj
    match j, hj with
    | 0, _ => rfl
    | 1, _ => rfl
    | 2, _ => rfl
    | 3, _ => rfl
    | 4, _ => rfl
    | 5, _ => rfl
    | 6, _ => rfl
    | 7, _ => rfl
    | k + 8, hj => exact absurd hj (by show ¬ (k + 8 < 8); omega)
  | 1, h =>
    cases h
    intro j hj
    match j, hj with
    | 0, _ => rfl
    | 1, _ => rfl
    | 2, _ => rfl
    | 3, _ => rfl
    | 4, _ => rfl
    | 5, _ => rfl
    | 6, _ => rfl
    | k + 7, hj => exact absurd hj (by show ¬ (k + 7 < 7); omega)
  | 2, h =>
    cases h
    intro j hj
    match j, hj with
    | 0, _ => rfl
    | 1, _ => rfl
    | 2, _ => rfl
    | 3, _ => rfl
    | 4, _ => rfl
    | 5, _ => rfl
    | 6, _ => rfl
    | k + 7, hj => exact absurd hj (by show ¬ (k + 7 < 7); omega)
  | 3, h =>
    cases h
    intro j hj
    match j, hj with
    | 0, _ => rfl
    | 1, _ => rfl
    | 2, _ => rfl
    | 3, _ => rfl
    | 4, _ => rfl
    | 5, _ => rfl
    | 6, _ => rfl
    | k + 7, hj => exact absurd hj (by show ¬ (k + 7 < 7); omega)
  | 4, h =>
    cases h
    intro j hj
    match j, hj with
    | 0, _ => rfl
    | 1, _ => rfl
    | 2, _ => rfl
    | 3, _ => rfl
    | 4, _ => rfl
    | 5, _ => rfl
    | 6, _ => rfl
    | k + 7, hj => exact absurd hj (by show ¬ (k + 7 < 7); omega)
  | 5, h =>
    cases h
    intro j hj
    match j, hj with
    | 0, _ => rfl
    | 1, _ => rfl
    | 2, _ => rfl
    | 3, _ => rfl
    | 4, _ => rfl
    | 5, _ => rfl
    | 6, _ => rfl
    | k + 7, hj => exact absurd hj (by show ¬ (k + 7 < 7); omega)
  | 6, h =>
    cases h
    intro j hj
    match j, hj with
    | 0, _ => rfl
    | 1, _ => rfl
    | 2, _ => rfl
    | 3, _ => rfl
    | 4, _ => rfl
    | 5, _ => rfl
    | 6, _ => rfl
    | k + 7, hj => exact absurd hj (by show ¬ (k + 7 < 7); omega)
  | 7, h =>
    cases h
    intro j hj
    match j, hj with
    | 0, _ => rfl
    | 1, _ => rfl
    | 2, _ => rfl
    | 3, _ => rfl
    | 4, _ => rfl
    | 5, _ => rfl
    | 6, _ => rfl
    | k + 7, hj => exact absurd hj (by show ¬ (k + 7 < 7); omega)
  | 8, h =>
    cases h
    intro j hj
    match j, hj with
    | 0, _ => rfl
    | 1, _ => rfl
    | 2, _ => rfl
    | 3, _ => rfl
    | 4, _ => rfl
    | 5, _ => rfl
    | 6, _ => rfl
    | 7, _ => rfl
    | 8, _ => rfl
    | 9, _ => rfl
    | 10, _ => rfl
    | 11, _ => rfl
    | k + 12, hj => exact absurd hj (by show ¬ (k + 12 < 12); omega)
  | 9, h =>
    cases h
    intro j hj
    match j, hj with
    | 0, _ => rfl
    | 1, _ => rfl
    | 2, _ => rfl
    | 3, _ => rfl
    | 4, _ => rfl
    | 5, _ => rfl
    | 6, _ => rfl
    | 7, _ => rfl
    | 8, _ => rfl
    | 9, _ => rfl
    | 10, _ => rfl
    | 11, _ => rfl
    | 12, _ => rfl
    | 13, _ => rfl
    | 14, _ => rfl
    | 15, _ => rfl
    | 16, _ => rfl
    | 17, _ => rfl
    | 18, _ => rfl
    | 19, _ => rfl
    | 20, _ => rfl
    | 21, _ => rfl
    | 22, _ => rfl
    | 23, _ => rfl
    | 24, _ => rfl
    | 25, _ => rfl
    | 26, _ => rfl
    | 27, _ => rfl
    | 28, _ => rfl
    | k + 29, hj => exact absurd hj (by show ¬ (k + 29 < 29); omega)
  | k + 10, h => simp [ol_cl] at h
/-- a cell's content by its kind: .inl ci an object of class ci, .inr (t, n) an array of kind t with n places -/
def ol_cell (cA : Nat → ClassId) (x : Nat ⊕ (Nat × Nat)) (I : Nat → Int32) (F : Nat → Option Nat) : va_E := match x with
  | .inl ci => .inr (ci, ol_fv (ol_fk ci) 0 I F)
  | .inr (t, n) => .inl (cA t, n, if ol_ar t = true then .inr (.inr (.inr (.inr F))) else .inl I)
def ol_cf (cA : Nat → ClassId) (ro : Nat → Nat) (I : Nat → Nat → Int32) (F : Nat → Nat → Option Nat) : Nat → va_E := fun a => ol_cell cA (ol_ct (ro a)) (I a) (F a)
/-- the heap holds the typed memory: all addresses that have a role -/
def ol_PG (D : va_G) (cA : Nat → ClassId) (A : Nat → Prop) (ro : Nat → Nat) (I : Nat → Nat → Int32) (F : Nat → Nat → Option Nat) (H : Heap) : Prop :=
  ∃ L : List Nat, (∀ a, a ∈ L ↔ ro a ≠ 0) ∧ va_P D ol_cl (va_pl L (ol_cf cA ro I F)) H ∧ va_D A (va_pl L (ol_cf cA ro I F))
theorem ol_pl_get {L : List Nat} {f : Nat → va_E} {a : Nat} (h : a ∈ L) : ∃ k : Nat, (va_pl L f)[k]? = some (a, f a) := va_pl_get (X := []) h
theorem ol_PG.lt {D : va_G} {cA : Nat → ClassId} {A : Nat → Prop} {ro : Nat → Nat} {I : Nat → Nat → Int32} {F : Nat → Nat → Option Nat} {H : Heap} (h : ol_PG D cA A ro I F H) {a : Nat} (ha : ro a ≠ 0) : a < H.size := by
  obtain ⟨L, h1, h2, h3⟩ := h
  exact va_pl_lt (X := []) h2 ((h1 a).mpr ha)
theorem ol_PG.mem {D : va_G} {cA : Nat → ClassId} {A : Nat → Prop} {ro : Nat → Nat} {I : Nat → Nat → Int32} {F : Nat → Nat → Option Nat} {H : Heap} (h : ol_PG D cA A ro I F H) {a : Nat} (ha : ro a ≠ 0) : A a := by
  obtain ⟨L, h1, h2, h3⟩ := h
  obtain ⟨k, hk⟩ := ol_pl_get (f := ol_cf cA ro I F) ((h1 a).mpr ha)
  exact h3.2 k _ hk
theorem ol_PG.weaken {D : va_G} {cA : Nat → ClassId} {A B : Nat → Prop} {ro : Nat → Nat} {I : Nat → Nat → Int32} {F : Nat → Nat → Option Nat} {H : Heap} (h : ol_PG D cA A ro I F H) (hAB : ∀ a, ro a ≠ 0 → A a → B a) : ol_PG D cA B ro I F H := by
  obtain ⟨L, h1, h2, h3⟩ := h
  refine ⟨L, h1, h2, h3.weaken (fun k q hk hA => hAB q.1 ?_ hA)⟩
  have hm := List.mem_of_getElem? hk
  obtain ⟨a, ha, e⟩ := List.mem_map.mp hm
  rw [← e]
  exact (h1 a).mp ha
theorem ol_set {D : va_G} {cA : Nat → ClassId} {A : Nat → Prop} {ro : Nat → Nat} {I I' : Nat → Nat → Int32} {F F' : Nat → Nat → Option Nat} {H1 : Heap} {L : List Nat} {k a : Nat} {e : va_E} (hL : ∀ a, a ∈ L ↔ ro a ≠ 0) (hD : va_D A (va_pl L (ol_cf cA ro I F))) (ha : a ∈ L) (hk : (va_pl L (ol_cf cA ro I F))[k]? = some (a, ol_cf cA ro I F a)) (he : e = ol_cell cA (ol_ct (ro a)) (I' a) (F' a)) (hI : ∀ b, b ≠ a → I' b = I b) (hF : ∀ b, b ≠ a → F' b = F b)
    (hP1 : va_P D ol_cl ((va_pl L (ol_cf cA ro I F)).set k (a, e)) H1) (hD1 : va_D A ((va_pl L (ol_cf cA ro I F)).set k (a, e))) : ol_PG D cA A ro I' F' H1 := by
  have hs : (va_pl L (ol_cf cA ro I F)).set k (a, e) = va_pl L (ol_cf cA ro I' F') := by
    have h1 : (va_pl L (ol_cf cA ro I F)).set k (a, e) = va_pl L (va_up (ol_cf cA ro I F) a e) := va_pl_set (X := []) hD ha hk
    rw [h1]
    refine va_pl_congr (fun b => ?_)
    by_cases hb : b = a
    · subst hb
      rw [va_up_self, he]
      rfl
    · rw [va_up_ne _ _ hb]
      unfold ol_cf
      rw [hI b hb, hF b hb]
  rw [hs] at hP1 hD1
  exact ⟨L, hL, hP1, hD1⟩
theorem ol_push {D : va_G} {cA : Nat → ClassId} {A : Nat → Prop} {ro : Nat → Nat} {I I' : Nat → Nat → Int32} {F F' : Nat → Nat → Option Nat} {H1 : Heap} {L : List Nat} {q r : Nat} {e : va_E} (hL : ∀ a, a ∈ L ↔ ro a ≠ 0) (hr : r ≠ 0) (he : e = ol_cell cA (ol_ct r) (I' q) (F' q)) (hI : ∀ b, b ≠ q → I' b = I b) (hF : ∀ b, b ≠ q → F' b = F b)
    (hP1 : va_P D ol_cl (va_pl L (ol_cf cA ro I F) ++ [(q, e)]) H1) (hD1 : va_D A (va_pl L (ol_cf cA ro I F) ++ [(q, e)])) : ro q = 0 ∧ ol_PG D cA A (va_up ro q r) I' F' H1 := by
  have hq : q ∉ L := va_pl_fresh2 (X := []) hD1
  have hq0 : ro q = 0 := Classical.byContradiction (fun h => hq ((hL q).mpr h))
  refine ⟨hq0, ?_⟩
  have hs : va_pl L (ol_cf cA ro I F) ++ [(q, e)] = va_pl (L ++ [q]) (ol_cf cA (va_up ro q r) I' F') := by
    rw [va_pl_push hq]
    refine va_pl_congr (fun b => ?_)
    by_cases hb : b = q
    · subst hb
      rw [va_up_self, he]
      unfold ol_cf
      rw [va_up_self]
    · rw [va_up_ne _ _ hb]
      unfold ol_cf
      rw [va_up_ne _ _ hb, hI b hb, hF b hb]
  rw [hs] at hP1 hD1
  refine ⟨L ++ [q], fun a => ?_, hP1, hD1⟩
  rw [List.mem_append, List.mem_singleton]
  by_cases hb : a = q
  · subst hb
    rw [va_up_self]
    exact ⟨fun _ => hr, fun _ => Or.inr rfl⟩
  · rw [va_up_ne _ _ hb, hL a]
    exact ⟨fun h => h.resolve_right hb, fun h => Or.inl h⟩
/-- what the tables say, beside the good words -/
def ol_k1 : Cond → Bool
  | .fieldLinkNest .. => true
  | .methodLinkNest .. => true
  | .castable .. => true
  | .declares _ => true
  | _ => false
theorem ol_w1 {w : Cond} {s U : State} (hk : ol_k1 w = true) (hW : s.WarmedH U.vm) (h : va_Nw w s) : va_Nw w U := by
  cases w <;> first | exact va_Nw.warmF hW h | exact va_Nw.warmM hW h | exact va_Nw.warmC hW h | exact va_Nw.warmD hW h | exact Bool.noConfusion hk
theorem ol_t1 {w : Cond} (hk : ol_k1 w = true) : w.onTables = true := by
  cases w <;> first | exact Bool.noConfusion hk | rfl
theorem ol_n1_ok : ∀ w ∈ ol_n1, ol_k1 w = true := by decide +kernel
def ol_KU (D : va_G) (cA : Nat → ClassId) (U : State) : Prop := va_K D ol_cl (ol_tys cA) U ∧ (∀ w ∈ ol_n1, va_Nw w U) ∧ (∀ q ∈ ol_n2, va_Nc q.1 q.2 U) ∧ ∀ q ∈ ol_n3, va_AO q U
theorem ol_KU.warm {D : va_G} {cA : Nat → ClassId} {s U : State} (hW : s.WarmedH U.vm) (h : ol_KU D cA s) : ol_KU D cA U :=
  ⟨va_K.moved hW.alike h.1, fun w hw => ol_w1 (ol_n1_ok w hw) hW (h.2.1 w hw), fun q hq => (h.2.2.1 q hq).moved hW.alike, fun q hq => (h.2.2.2 q hq).moved hW.alike⟩
theorem ol_KU.same {D : va_G} {cA : Nat → ClassId} {u U : State} (e : u.vm = U.vm) (h : ol_KU D cA u) : ol_KU D cA U := by
  have ha : u.vm.Alike U.vm := by rw [← e]; exact Vm.Alike.refl u.vm
  exact ⟨va_K.moved ha h.1, fun w hw => va_Nw.same (ol_t1 (ol_n1_ok w hw)) e (h.2.1 w hw), fun q hq => (h.2.2.1 q hq).moved ha, fun q hq => (h.2.2.2 q hq).moved ha⟩
/-- what holds all through a method's body -/
def ol_Cx (p : Program) (s : State) (m : MethodId) (args : Array Value) (c : Code) (cc : ByteArray) (nL : Nat) (own : String) (D : va_G) (cA : Nat → ClassId) (A : Nat → Prop) : Prop :=
  p.tables.exec = Jvm.exec ∧ c.code = cc ∧ c.maxLocals = nL ∧ s.vm.findClass own = some m.cls ∧ (∀ w ∈ ol_all, w.before args s = true) ∧ ol_KU D cA s ∧ ∀ q, s.heap.size ≤ q → A q
/-- the walk, the heap and the locals known by the typed memory -/
def ol_W (p : Program) (l : Launch) (e : Env) (R : Room) (s : State) (m : MethodId) (args : Array Value) (below : List Frame) (meth : Method) (c : Code) (D : va_G) (cA : Nat → ClassId) (A : Nat → Prop) (Q : State → Prop) (nL : Nat) (ro : Nat → Nat) (I : Nat → Nat → Int32) (F : Nat → Nat → Option Nat) (cells slots : Nat) (pc : Nat) (lv : List (Option Value)) (st : List Value) : Prop :=
  ∀ (H : Heap) (locs : List Loc) (ls : Array Slot), ol_PG D cA A ro I F H → va_S A s.heap H locs → ol_LH ls nL lv → W p l e R s m args below meth c H locs cells slots Q (F0 m pc ls st)
