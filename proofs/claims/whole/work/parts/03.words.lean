-- class 0: ObjectLoads = X10, fields ['things', 'thingCount', 'loaded', 'building', 'refusedThing', 'refusedOther', 'refusedCause', 'failedLoads']
-- class 1: ObjectLoads$Point = X7, fields ['number', 'places', 'key', 'v', 'next', 'held', 'timesAsked']
-- class 2: ObjectLoads$City = X2, fields ['number', 'places', 'key', 'v', 'next', 'held', 'timesAsked']
-- class 3: ObjectLoads$Bridge = X0, fields ['number', 'places', 'key', 'v', 'next', 'held', 'timesAsked']
-- class 4: ObjectLoads$Broken = X1, fields ['number', 'places', 'key', 'v', 'next', 'held', 'timesAsked']
-- class 5: ObjectLoads$Masked = X5, fields ['number', 'places', 'key', 'v', 'next', 'held', 'timesAsked']
-- class 6: ObjectLoads$ShortCity = X8, fields ['number', 'places', 'key', 'v', 'next', 'held', 'timesAsked']
-- class 7: ObjectLoads$Empty = X3, fields ['number', 'places', 'key', 'v', 'next', 'held', 'timesAsked']
-- class 8: ObjectLoads$Graph = X4, fields ['nodes', 'nodeOfThing', 'values', 'firstArc', 'arcEnds', 'arcWeights', 'arcBridged', 'steps', 'reached', 'nodeCount', 'arcCount', 'holeCount']
-- class 9: ObjectLoadsModel = X11, fields ['things', 'sorts', 'keys', 'vs', 'nexts', 'places', 'isHeld', 'askedOf', 'moved', 'told', 'links', 'linkMany', 'now', 'nodes', 'thingOf', 'nodeOf', 'columns', 'firstArc', 'arcsIn', 'arcTo', 'arcWeight', 'arcBridge', 'holeMany', 'failed', 'refusedThing', 'refusedOther', 'refusedCause', 'keyOf', 'far']
def ol_cl : List vw_C := [(RX10, TX10, 8), (RX7, TX7, 7), (RX2, TX2, 7), (RX0, TX0, 7), (RX1, TX1, 7), (RX5, TX5, 7), (RX8, TX8, 7), (RX3, TX3, 7), (RX4, TX4, 12), (RX11, TX11, 29)]
def ol_fk : Nat → List Bool := fun ci => match ci with
  | 0 => [true, false, true, true, false, false, false, false]
  | 1 => [false, true, false, false, true, false, false]
  | 2 => [false, true, false, false, true, false, false]
  | 3 => [false, true, false, false, true, false, false]
  | 4 => [false, true, false, false, true, false, false]
  | 5 => [false, true, false, false, true, false, false]
  | 6 => [false, true, false, false, true, false, false]
  | 7 => [false, true, false, false, true, false, false]
  | 8 => [true, true, true, true, true, true, true, true, true, false, false, false]
  | 9 => [false, true, true, true, true, true, true, true, true, false, true, false, false, true, true, true, true, true, true, true, true, true, true, false, false, false, false, true, true]
  | _ => []
def ol_ty : Nat → Nat → FieldType := fun ci => match ci with
  | 0 => tyX10
  | 1 => tyX7
  | 2 => tyX2
  | 3 => tyX0
  | 4 => tyX1
  | 5 => tyX5
  | 6 => tyX8
  | 7 => tyX3
  | 8 => tyX4
  | 9 => tyX11
  | _ => fun _ => .int
def ol_ar : Nat → Bool := fun t => decide (2 ≤ t)
def ol_tys (cA : Nat → ClassId) : List (ClassId × FieldType) := [(cA 0, .int), (cA 1, .boolean), (cA 2, .object "ObjectLoads$Thing"), (cA 3, .object "ObjectLoads$Node")]
/-- the kind of a role: 1 the class, 2..8 a thing of sort 0..6, 9 (unused), 10 the reference, 11 things, 12 places, 22..42 the reference's rows, 50.. and 60.. the two graphs with their rows -/
def ol_cts : List (Nat ⊕ (Nat × Nat)) := [.inl 0, .inl 0, .inl 1, .inl 2, .inl 3, .inl 4, .inl 5, .inl 6, .inl 7, .inl 8, .inl 9, .inr (2, 40), .inr (2, 6), .inl 0, .inl 0, .inl 0, .inl 0, .inl 0, .inl 0, .inl 0, .inl 0, .inl 0, .inr (0, 40), .inr (0, 40), .inr (0, 40), .inr (0, 40), .inr (0, 240), .inr (1, 40), .inr (0, 40), .inr (0, 6), .inr (0, 6), .inr (0, 2), .inr (0, 80), .inr (0, 80), .inr (0, 80), .inr (0, 82), .inr (0, 2), .inr (0, 480), .inr (0, 480), .inr (1, 480), .inr (0, 2), .inr (0, 40), .inr (0, 40), .inl 0, .inl 0, .inl 0, .inl 0, .inl 0, .inl 0, .inl 0, .inl 8, .inr (3, 40), .inr (0, 40), .inr (0, 40), .inr (0, 41), .inr (0, 240), .inr (0, 240), .inr (1, 240), .inr (0, 40), .inr (0, 40), .inl 8, .inr (3, 40), .inr (0, 40), .inr (0, 40), .inr (0, 41), .inr (0, 240), .inr (0, 240), .inr (1, 240), .inr (0, 40), .inr (0, 40)]
def ol_ct (r : Nat) : Nat ⊕ (Nat × Nat) := ol_cts.getD r (.inl 0)
def ol_fd (ci k : Nat) : Option (String × String × String × Bool) := (ol_cl[ci]?).bind (fun q => if k < q.2.2 then some (q.2.1 k) else none)
def ol_all : List Cond := lw_tbl.filter goodWord
theorem ol_all_good : GoodIn ol_all ol_all := fun w h => ⟨h, good_of_word (List.mem_filter.mp h).2⟩
theorem ol_in {w : Cond} (i : Nat) (h : tables_1[i]? = some w) (hg : goodWord w = true) : w ∈ ol_all := List.mem_filter.mpr ⟨List.mem_append_right _ (List.mem_of_getElem? h), hg⟩
theorem ol_inP {w : Cond} (i : Nat) (h : (k2_sels lw_privs)[i]? = some w) (hg : goodWord w = true) : w ∈ ol_all := List.mem_filter.mpr ⟨List.mem_append_left _ (List.mem_of_getElem? h), hg⟩
def ol_n1 : List Cond := [
Cond.declares ⟨"ObjectLoads$Thing", "keyCause", "()I"⟩,
  Cond.declares ⟨"ObjectLoads$Thing", "toldKey", "()I"⟩,
  Cond.declares ⟨"ObjectLoads$Thing", "valueCause", "()I"⟩,
  Cond.declares ⟨"ObjectLoads$Thing", "toldValue", "()I"⟩,
  Cond.declares ⟨"ObjectLoads$Thing", "linksCause", "()I"⟩,
  Cond.methodLinkNest "ObjectLoads$Masked" 19 ⟨"ObjectLoads", "countUpToBridge", "([LObjectLoads$Thing;II)I"⟩ "ObjectLoads",
  Cond.methodLinkNest "ObjectLoads$ShortCity" 15 ⟨"ObjectLoads", "isPlace", "(I)Z"⟩ "ObjectLoads",
  Cond.declares ⟨"ObjectLoads$Thing", "linkCount", "()I"⟩,
  Cond.declares ⟨"ObjectLoads$Node", "link", "(I)LObjectLoads$Thing;"⟩,
  Cond.methodLinkNest "ObjectLoads$City" 15 ⟨"ObjectLoads", "isPlace", "(I)Z"⟩ "ObjectLoads",
  Cond.castable "ObjectLoads$Masked" "ObjectLoads$Masked",
  Cond.castable "ObjectLoads$Bridge" "ObjectLoads$Bridge",
  Cond.castable "ObjectLoads$Broken" "ObjectLoads$Node",
  Cond.castable "ObjectLoads$City" "ObjectLoads$Node",
  Cond.castable "ObjectLoads$Empty" "ObjectLoads$Node",
  Cond.castable "ObjectLoads$Masked" "ObjectLoads$Node",
  Cond.castable "ObjectLoads$Point" "ObjectLoads$Node",
  Cond.castable "ObjectLoads$ShortCity" "ObjectLoads$Node",
  Cond.castable "ObjectLoads$City" "ObjectLoads$City",
  Cond.castable "ObjectLoads$Masked" "ObjectLoads$City",
  Cond.castable "ObjectLoads$ShortCity" "ObjectLoads$City",
  Cond.castable "ObjectLoads$Bridge" "ObjectLoads$Thing",
  Cond.castable "ObjectLoads$Broken" "ObjectLoads$Thing",
  Cond.castable "ObjectLoads$City" "ObjectLoads$Thing",
  Cond.castable "ObjectLoads$Empty" "ObjectLoads$Thing",
  Cond.castable "ObjectLoads$Masked" "ObjectLoads$Thing",
  Cond.castable "ObjectLoads$Point" "ObjectLoads$Thing",
  Cond.castable "ObjectLoads$ShortCity" "ObjectLoads$Thing"]
def ol_n2 : List (String × String) := [("ObjectLoads", "ObjectLoads$Bridge"), ("ObjectLoads", "ObjectLoads$City"), ("ObjectLoads", "ObjectLoads$Masked"), ("ObjectLoads", "ObjectLoads$Node"), ("ObjectLoads$Bridge", "ObjectLoads$City"), ("ObjectLoads$Bridge", "ObjectLoads$Masked"), ("ObjectLoads$Bridge", "ObjectLoads$Node"), ("ObjectLoads$Broken", "ObjectLoads$Bridge"), ("ObjectLoads$Broken", "ObjectLoads$City"), ("ObjectLoads$Broken", "ObjectLoads$Masked"), ("ObjectLoads$City", "ObjectLoads$Bridge"), ("ObjectLoads$City", "ObjectLoads$Masked"), ("ObjectLoads$Empty", "ObjectLoads$Bridge"), ("ObjectLoads$Empty", "ObjectLoads$City"), ("ObjectLoads$Empty", "ObjectLoads$Masked"), ("ObjectLoads$Graph", "ObjectLoads$Bridge"), ("ObjectLoads$Graph", "ObjectLoads$City"), ("ObjectLoads$Graph", "ObjectLoads$Masked"), ("ObjectLoads$Graph", "ObjectLoads$Node"), ("ObjectLoads$Masked", "ObjectLoads$Bridge"), ("ObjectLoads$Point", "ObjectLoads$Bridge"), ("ObjectLoads$Point", "ObjectLoads$City"), ("ObjectLoads$Point", "ObjectLoads$Masked"), ("ObjectLoads$ShortCity", "ObjectLoads$Bridge"), ("ObjectLoads$ShortCity", "ObjectLoads$Masked"), ("ObjectLoadsModel", "ObjectLoads$Bridge"), ("ObjectLoadsModel", "ObjectLoads$City"), ("ObjectLoadsModel", "ObjectLoads$Masked"), ("ObjectLoadsModel", "ObjectLoads$Node")]
def ol_n3 : List String := ["ObjectLoads$Thing", "ObjectLoads$Node"]
theorem ol_n1_in : ∀ w ∈ ol_n1, w ∈ tables_1 := by decide +kernel
theorem ol_ws0 : ∀ w ∈ u_ws RX10 TX10 8, w ∈ ol_all := by decide +kernel
theorem ol_ws1 : ∀ w ∈ u_ws RX7 TX7 7, w ∈ ol_all := by decide +kernel
theorem ol_ws2 : ∀ w ∈ u_ws RX2 TX2 7, w ∈ ol_all := by decide +kernel
theorem ol_ws3 : ∀ w ∈ u_ws RX0 TX0 7, w ∈ ol_all := by decide +kernel
theorem ol_ws4 : ∀ w ∈ u_ws RX1 TX1 7, w ∈ ol_all := by decide +kernel
theorem ol_ws5 : ∀ w ∈ u_ws RX5 TX5 7, w ∈ ol_all := by decide +kernel
theorem ol_ws6 : ∀ w ∈ u_ws RX8 TX8 7, w ∈ ol_all := by decide +kernel
theorem ol_ws7 : ∀ w ∈ u_ws RX3 TX3 7, w ∈ ol_all := by decide +kernel
theorem ol_ws8 : ∀ w ∈ u_ws RX4 TX4 12, w ∈ ol_all := by decide +kernel
theorem ol_ws9 : ∀ w ∈ u_ws RX11 TX11 29, w ∈ ol_all := by decide +kernel
theorem ol_cl_ws : ∀ (ci : Nat) (q : vw_C), ol_cl[ci]? = some q → ∀ w ∈ u_ws q.1 q.2.1 q.2.2, w ∈ ol_all := by
  intro ci q h
  match ci, h with
  | 0, h => cases h; exact ol_ws0
  | 1, h => cases h; exact ol_ws1
  | 2, h => cases h; exact ol_ws2
  | 3, h => cases h; exact ol_ws3
  | 4, h => cases h; exact ol_ws4
  | 5, h => cases h; exact ol_ws5
  | 6, h => cases h; exact ol_ws6
  | 7, h => cases h; exact ol_ws7
  | 8, h => cases h; exact ol_ws8
  | 9, h => cases h; exact ol_ws9
  | k + 10, h => simp [ol_cl] at h
theorem ol_cl_ty : ∀ (ci : Nat) (q : vw_C), ol_cl[ci]? = some q → ∀ k, k < q.2.2 → parseFieldDescriptor (q.2.1 k).2.2.1 = some (ol_ty ci k) := by
  intro ci q h
  match ci, h with
  | 0, h => cases h; exact tyX10_ok
  | 1, h => cases h; exact tyX7_ok
  | 2, h => cases h; exact tyX2_ok
  | 3, h => cases h; exact tyX0_ok
  | 4, h => cases h; exact tyX1_ok
  | 5, h => cases h; exact tyX5_ok
  | 6, h => cases h; exact tyX8_ok
  | 7, h => cases h; exact tyX3_ok
  | 8, h => cases h; exact tyX4_ok
  | 9, h => cases h; exact tyX11_ok
  | k + 10, h => simp [ol_cl] at h
theorem ol_cl_nm : ∀ (ci : Nat) (q : vw_C), ol_cl[ci]? = some q → ∀ a, a < q.2.2 → ∀ b, b < q.2.2 → a ≠ b → (q.2.1 a).2.1 ≠ (q.2.1 b).2.1 := by
  intro ci q h
  match ci, h with
  | 0, h => cases h; exact nmX10
  | 1, h => cases h; exact nmX7
  | 2, h => cases h; exact nmX2
  | 3, h => cases h; exact nmX0
  | 4, h => cases h; exact nmX1
  | 5, h => cases h; exact nmX5
  | 6, h => cases h; exact nmX8
  | 7, h => cases h; exact nmX3
  | 8, h => cases h; exact nmX4
  | 9, h => cases h; exact nmX11
  | k + 10, h => simp [ol_cl] at h
theorem ol_cl_len : ∀ (ci : Nat) (q : vw_C), ol_cl[ci]? = some q → (ol_fk ci).length = q.2.2 := by
  intro ci q h
  match ci, h with
  | 0, h => cases h; rfl
  | 1, h => cases h; rfl
  | 2, h => cases h; rfl
  | 3, h => cases h; rfl
  | 4, h => cases h; rfl
  | 5, h => cases h; rfl
  | 6, h => cases h; rfl
  | 7, h => cases h; rfl
  | 8, h => cases h; rfl
  | 9, h => cases h; rfl
  | k + 10, h => simp [ol_cl] at h
