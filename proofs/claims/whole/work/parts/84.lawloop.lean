/-! THE LAW's LOOP -/
set_option maxRecDepth 100000 in
set_option maxHeartbeats 4000000 in
theorem law_loop {p : Program} {l : Launch} {e : Env} {s : State} {m : MethodId} {below : List Frame} {meth : Method} {c : Code} {D : va_G} {cA : Nat → ClassId} {b L : Nat} {xs : Nat → Int32} {ad : Nat → Nat} (hL : L ≤ 3072) (C0 : lw_At p s m meth c b L xs) (C : ol_Cx p s m #[Value.ref b] c cL_law 4 RL D cA (fun q : Nat => s.heap.size ≤ q)) :
    ∀ (d j : Nat) (ro : Nat → Nat) (I : Nat → Nat → Int32) (F : Nat → Nat → Option Nat), L + 1 ≤ 6 * j + 6 * d → 6 * j ≤ L → ol_ST ro I F ad → ol_W p l e room_1 s m #[Value.ref b] below meth c D cA (fun q : Nat => s.heap.size ≤ q) (lw_Z below #[Value.ref b] s) 4 ro I F (44 + 2 * j) (4423 + 13 * j) 18 [some (.ref b), some (.ref (ad 1)), some (.ref (ad 10)), some (.int (nI (6 * j)))] [] := by
  obtain ⟨hx, hb, hr, hml, hown, hts, hX, hbl, hlocks, hgv⟩ := C0
  have hbA : ¬ (fun q : Nat => s.heap.size ≤ q) b := Nat.not_le.mpr hbl
  have hL31 : L < 2 ^ 31 := by omega
  intro d
  induction d with
  | zero =>
    intro j ro I F h1 h2
    omega
  | succ d ih =>
    intro j ro I F h1 h2 hS
    refine ol_iload_n C dL_law_18 rfl rfl ?_
    refine ol_aload_n C dL_law_19 rfl rfl (ol_isq_r _) ?_
    refine ol_slen C hX hbl hbA dL_law_20 ?_
    refine ol_bipush (v := nI 6) C dL_law_21 (by decide) ?_
    refine ol_isub C dL_law_23 ?_
    have e6 : (nI L - nI 6).toInt = (L : Int) - 6 := pk_sub_toInt (a := L) (b := 6) (by omega) (by omega)
    have ej : (nI (6 * j)).toInt = ((6 * j : Nat) : Int) := nI_toInt (by omega)
    refine ol_icmp_gt (tgt := 813) C dL_law_24 (by decide) (fun c_24 => ?_) (fun c_24 => ?_)
    · refine ol_iconst (v := 1) C dL_law_813 (by decide) ?_
      intro H locs ls hP hS2 hl
      refine va_forget (fun q hq => hS2.2.2 q hq) ?_
      refine W.widen (k := 600000) (n := 7302250) (by omega) (by omega) ?_
      exact lw_ret hx hb hr hlocks dL_law_814
    · rw [Int32.lt_iff_toInt_lt, e6, ej] at c_24
      have hi : 6 * j + 6 ≤ L := by omega
      have K : ∀ (ro' : Nat → Nat) (I' : Nat → Nat → Int32) (F' : Nat → Nat → Option Nat), ol_ST ro' I' F' ad → ol_W p l e room_1 s m #[Value.ref b] below meth c D cA (fun q : Nat => s.heap.size ≤ q) (lw_Z below #[Value.ref b] s) 4 ro' I' F' (44 + 2 * j + 2) (4423 + 13 * j + 13) 807 [some (.ref b), some (.ref (ad 1)), some (.ref (ad 10)), some (.int (nI (6 * j)))] [] := by
        intro ro' I' F' hS'
        refine ol_iinc (v := nI (6 * (j + 1))) C dL_law_807 rfl (nI_add (6 * j) 6) (by decide) ?_
        refine ol_goto (tgt := 18) C dL_law_810 (by decide) ?_
        exact ih (j + 1) ro' I' F' (by omega) (by omega) hS'
      refine ol_aload_n C dL_law_27 rfl rfl (ol_isq_r _) ?_
      refine ol_iload_n C dL_law_28 rfl rfl ?_
      refine ol_sld (6 * j) C hX hbl hbA rfl (by omega) hL31 dL_law_29 ?_
      refine ol_bipush (v := 31) C dL_law_30 (by decide) ?_
      refine ol_iand C dL_law_32 ?_
      generalize xs (6 * j) &&& 31 = y
      by_cases hy : y.toInt < 0 ∨ 20 < y.toInt
      · refine ol_table_out (tgt := 807) C dL_law_33 hy (by decide) ?_
        exact ol_widen (k := 44 + 2 * j + 2) (n := 4423 + 13 * j + 13) (by omega) (by omega) (K ro I F hS)
      · have h1y : ¬ y.toInt < 0 := fun q => hy (Or.inl q)
        have h2y : ¬ 20 < y.toInt := fun q => hy (Or.inr q)
        have h3y : y.toInt = 0 ∨ y.toInt = 1 ∨ y.toInt = 2 ∨ y.toInt = 3 ∨ y.toInt = 4 ∨ y.toInt = 5 ∨ y.toInt = 6 ∨ y.toInt = 7 ∨ y.toInt = 8 ∨ y.toInt = 9 ∨ y.toInt = 10 ∨ y.toInt = 11 ∨ y.toInt = 12 ∨ y.toInt = 13 ∨ y.toInt = 14 ∨ y.toInt = 15 ∨ y.toInt = 16 ∨ y.toInt = 17 ∨ y.toInt = 18 ∨ y.toInt = 19 ∨ y.toInt = 20 := by omega
        rcases h3y with q | q | q | q | q | q | q | q | q | q | q | q | q | q | q | q | q | q | q | q | q
        · exact ol_table_in (tgt := 132) C dL_law_33 h1y h2y (by rw [q]; rfl) (by decide) (lwc_0 C hX hbl hbA hi hL31 hS (by omega) (by omega) K)
        · exact ol_table_in (tgt := 175) C dL_law_33 h1y h2y (by rw [q]; rfl) (by decide) (lwc_1 C hX hbl hbA hi hL31 hS (by omega) (by omega) K)
        · exact ol_table_in (tgt := 208) C dL_law_33 h1y h2y (by rw [q]; rfl) (by decide) (lwc_2 C hX hbl hbA hi hL31 hS (by omega) (by omega) K)
        · exact ol_table_in (tgt := 241) C dL_law_33 h1y h2y (by rw [q]; rfl) (by decide) (lwc_3 C hX hbl hbA hi hL31 hS (by omega) (by omega) K)
        · exact ol_table_in (tgt := 274) C dL_law_33 h1y h2y (by rw [q]; rfl) (by decide) (lwc_4 C hX hbl hbA hi hL31 hS (by omega) (by omega) K)
        · exact ol_table_in (tgt := 317) C dL_law_33 h1y h2y (by rw [q]; rfl) (by decide) (lwc_5 C hX hbl hbA hi hL31 hS (by omega) (by omega) K)
        · exact ol_table_in (tgt := 366) C dL_law_33 h1y h2y (by rw [q]; rfl) (by decide) (lwc_6 C hX hbl hbA hi hL31 hS (by omega) (by omega) K)
        · exact ol_table_in (tgt := 429) C dL_law_33 h1y h2y (by rw [q]; rfl) (by decide) (lwc_7 C hX hbl hbA hi hL31 hS (by omega) (by omega) K)
        · exact ol_table_in (tgt := 478) C dL_law_33 h1y h2y (by rw [q]; rfl) (by decide) (lwc_8 C hX hbl hbA hi hL31 hS (by omega) (by omega) K)
        · exact ol_table_in (tgt := 501) C dL_law_33 h1y h2y (by rw [q]; rfl) (by decide) (lwc_9 C hX hbl hbA hi hL31 hS (by omega) (by omega) K)
        · exact ol_table_in (tgt := 524) C dL_law_33 h1y h2y (by rw [q]; rfl) (by decide) (lwc_10 C hX hbl hbA hi hL31 hS (by omega) (by omega) K)
        · exact ol_table_in (tgt := 547) C dL_law_33 h1y h2y (by rw [q]; rfl) (by decide) (lwc_11 C hX hbl hbA hi hL31 hS (by omega) (by omega) K)
        · exact ol_table_in (tgt := 570) C dL_law_33 h1y h2y (by rw [q]; rfl) (by decide) (lwc_12 C hX hbl hbA hi hL31 hS (by omega) (by omega) K)
        · exact ol_table_in (tgt := 593) C dL_law_33 h1y h2y (by rw [q]; rfl) (by decide) (lwc_13 C hX hbl hbA hi hL31 hS (by omega) (by omega) K)
        · exact ol_table_in (tgt := 636) C dL_law_33 h1y h2y (by rw [q]; rfl) (by decide) (lwc_14 C hX hbl hbA hi hL31 hS (by omega) (by omega) K)
        · exact ol_table_in (tgt := 669) C dL_law_33 h1y h2y (by rw [q]; rfl) (by decide) (lwc_15 C hX hbl hbA hi hL31 hS (by omega) (by omega) K)
        · exact ol_table_in (tgt := 682) C dL_law_33 h1y h2y (by rw [q]; rfl) (by decide) (lwc_16 C hX hbl hbA hi hL31 hS (by omega) (by omega) K)
        · exact ol_table_in (tgt := 705) C dL_law_33 h1y h2y (by rw [q]; rfl) (by decide) (lwc_17 C hX hbl hbA hi hL31 hS (by omega) (by omega) K)
        · exact ol_table_in (tgt := 738) C dL_law_33 h1y h2y (by rw [q]; rfl) (by decide) (lwc_18 C hX hbl hbA hi hL31 hS (by omega) (by omega) K)
        · exact ol_table_in (tgt := 771) C dL_law_33 h1y h2y (by rw [q]; rfl) (by decide) (lwc_19 C hX hbl hbA hi hL31 hS (by omega) (by omega) K)
        · exact ol_table_in (tgt := 794) C dL_law_33 h1y h2y (by rw [q]; rfl) (by decide) (lwc_20 C hX hbl hbA hi hL31 hS (by omega) (by omega) K)
set_option maxRecDepth 100000 in
set_option maxHeartbeats 4000000 in
/-- THE LAW, from its entry -/
theorem whole_start {p : Program} {e : Env} {s : State} {m : MethodId} {below : List Frame} {meth : Method} {c : Code} (l : Launch) {b L : Nat} {xs : Nat → Int32} (hL : L ≤ 3072) (C0 : lw_At p s m meth c b L xs) : W p l e room_1 s m #[Value.ref b] below meth c s.heap [] 0 0 (lw_Z below #[Value.ref b] s) (entryFrame m ([Value.ref b] : List Value).toArray 4) := by
  obtain ⟨D, cA, C⟩ := lw_cx C0
  have K : ol_W p l e room_1 s m #[Value.ref b] below meth c D cA (fun q : Nat => s.heap.size ≤ q) (lw_Z below #[Value.ref b] s) 4 (fun _ => 0) (fun _ _ => 0) (fun _ _ => none) 0 0 0 [some (.ref b), none, none, none] [] := by
    refine ol_new (ci := 0) (r := 1) C rfl rfl (by decide) wd_14 wd_15 wd_1 (by decide) (by decide) dL_law_0 (fun a1 z1 => ?_)
    refine ol_dup C dL_law_3 rfl ?_
    refine ol_callI C (x_init l D cA (va_up_self _ _ _)) wd_18 wd_1 wd_16 wd_17 rfl mh_X10_init (by decide) rfl (by first | exact Nat.le_of_ble_eq_true rfl | simp [ol_rfc, Value.category]) dL_law_4 ?_
    rintro v ro1 I1 F1 ⟨rfl, ad1, e1, h1⟩
    refine ol_st (st' := _) (List.nil_append _) ?_
    refine ol_astore_n C dL_law_7 rfl (by decide) (ol_isq_r _) ?_
    refine ol_new (ci := 9) (r := 10) C rfl rfl (by decide) wd_570 wd_571 wd_4 (by decide) (by decide) dL_law_8 (fun a2 z2 => ?_)
    refine ol_dup C dL_law_11 rfl ?_
    have hLX := h1.1
    have n2 : ∀ r ∈ ol_uX, ad1 r ≠ a2 := fun r hr q => by
      have h3 := hLX.1 r hr
      rw [q, z2] at h3
      subst h3
      exact absurd hr (by decide)
    have g2 : ∀ r ∈ ol_uX, va_up ro1 a2 10 (ad1 r) = r := fun r hr => by rw [va_up_ne _ _ (n2 r hr)]; exact hLX.1 r hr
    have hLX2 : ol_LX (va_up ro1 a2 10) (va_up F1 a2 (fun _ => none)) ad1 := by
      refine ⟨g2, by rw [va_up_ne _ _ (n2 1 (by decide))]; exact hLX.2.1, fun b2 hb2 j hj => ?_⟩
      rw [va_up_ne _ _ (n2 b2 (by rcases ol_5060 hb2 with rfl | rfl <;> decide))]
      exact hLX.2.2 b2 hb2 j hj
    refine ol_callI C (mm_init l D cA (va_up_self _ _ _) hLX2 (by rw [va_up_self])) wd_574 wd_4 wd_572 wd_573 rfl mh_X11_init (by decide) rfl (by first | exact Nat.le_of_ble_eq_true rfl | simp [ol_rfc, Value.category]) dL_law_12 ?_
    rintro v ro2 I2 F2 ⟨rfl, ad2, e2, e3, hL2, hM2, hf2⟩
    refine ol_st (st' := _) (List.nil_append _) ?_
    refine ol_astore_n C dL_law_15 rfl (by decide) (ol_isq_r _) ?_
    refine ol_iconst (v := nI 0) C dL_law_16 (by decide) ?_
    refine ol_istore_n C dL_law_17 rfl (by decide) ?_
    have hS : ol_ST ro2 I2 F2 ad2 := by
      refine ol_ST_0 (m := 0) h1 hL2 hM2 e2 (fun r hr => ?_)
      obtain ⟨-, f1, f2⟩ := hf2 (ad1 r) (by rw [g2 r hr]; intro q; subst q; exact absurd hr (by decide)) (n2 r hr)
      rw [f1, f2, va_up_ne _ _ (n2 r hr), va_up_ne _ _ (n2 r hr)]
      exact ⟨rfl, rfl⟩
    subst e1
    subst e3
    have e4 : ad1 1 = ad2 1 := (e2 1 (by decide)).symm
    rw [e4]
    exact law_loop hL C0 C (L + 1) 0 ro2 I2 F2 (by omega) (by omega) hS
  have hl := lv_entry ([.ref b]) (n := 4) (Nat.le_of_ble_eq_true rfl)
  rw [lg_entry_eq]
  have hLH := ol_LH.entry (vs := [.ref b]) 3 (fun v hv => by simp at hv; subst hv; rfl) hl
  exact K s.heap [] _ (lw_PG0 D cA _ s.heap) va_S.rf hLH
